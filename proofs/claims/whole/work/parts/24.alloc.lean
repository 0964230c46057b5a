/-! new cells -/
theorem newT_at {T : TT} {a k n : Nat} : newT T a k n a = (k, n, fun _ => none) := if_pos rfl
theorem newT_ne {T : TT} {a k n b : Nat} (h : b ≠ a) : newT T a k n b = T b := if_neg h
theorem newM_at {M : MM} {a j : Nat} : newM M a a j = 0 := if_pos rfl
theorem newM_ne {M : MM} {a b : Nat} (h : b ≠ a) : newM M a b = M b := funext fun j => if_neg h
theorem over_use {t : FieldType} {A : Array Value} {U : State} (h : va_Nw (.arrayOver t) U) : (Cond.arrayOver t).before A U = true := h
theorem outer_arr (c : ClassId) (N h0 : Nat) : ∀ i : Nat, Jvm.Free.Multi.outerC c N h0 i = arrV c N (fun j => va_rf (if j < i then some (h0 + 1 + j) else none))
  | 0 => by
    show ({ cls := c, slots := Array.replicate N .null, vm := .none } : Cell) = _
    rw [arrV_new]
    congr 1
  | i + 1 => by
    show (Jvm.Free.Multi.outerC c N h0 i).setSlot i (.ref (h0 + 1 + i)) = _
    rw [outer_arr c N h0 i, arrV_store]
    congr 1
    funext j
    by_cases e : j = i
    · subst e; simp [updV, va_rf]
    · by_cases e2 : j < i
      · simp [updV, e, e2, show j < i + 1 by omega]
      · simp [updV, e, e2, show ¬ j < i + 1 by omega]
section
variable {g : WG} {x : CX} {own : String} {cc : ByteArray} {d : Nat} {pc : Nat} {ls st : List MVal} {T : TT} {M : MM} {sz nc ns : Nat}
theorem J_weak {nc2 ns2 : Nat} (k : Jd g x pc ls st T M sz nc ns) (h1 : nc ≤ nc2) (h2 : ns ≤ ns2) : Jd g x pc ls st T M sz nc2 ns2 :=
  fun H locs cells slots lsC stC hR hlocs hl hs hc1 hc2 => k H locs cells slots lsC stC hR hlocs hl hs (by omega) (by omega)
theorem J_newI (h : OKx g x own cc d) {n : Int} (N : Nat) {nc' ns' : Nat} (harr : Cond.arrayClass .int ∈ tblG) (hd : decode cc pc = .ok (.newarray .int, 2)) (hn : n = (N : Int)) (hN : N ≤ 10000) (hnc : nc = 1 + nc') (hns : ns = N + ns')
    (k : Jd g x (pc + 2) ls (vR sz :: st) (newT T sz 10 N) (newM M sz) (sz + 1) nc' ns') : Jd g x pc ls (vI n :: st) T M sz nc ns := by
  obtain ⟨p, l, e, R, s, m, args, below, meth, c, Q⟩ := x
  obtain ⟨hx, hb, hown, hts, hK, -⟩ := h
  intro H locs cells slots lsC stC hR hlocs hl hs hc1 hc2
  obtain ⟨i, stC, rfl, ei, hs⟩ := st_I hs
  have hin := in_of (N := N + 1) ei hn (by omega)
  have hc1' : cells + nc ≤ R.cells := hc1
  have hc2' : slots + ns ≤ R.slots := hc2
  refine va_newaK (atype := .int) hx hb (hts _ harr) rfl hd rfl (fun q => hin.1 (Or.inl q)) hin.2 (by simp [newarray.typeOf, componentBytes]; omega) (by omega) (by omega) hR.1 fun H' cA e1 e2 e3 e4 e5 => ?_
  have hcA : cA = g.2.1 0 := Option.some.inj (e5.symm.trans (hK.1.2 0 _ rfl).2)
  exact k H' locs (cells + 1) (slots + N) lsC _ (hR.grow e2 (fun q hq => e3 q hq) (fun b hb => newT_ne hb) (fun b hb => newM_ne hb) (e := .inl (cA, N, .inl (fun _ => 0))) (by show H'[sz]? = some (vp_cell _ _); rw [vp_cell_i]; exact e1) ⟨Or.inl ⟨by rw [newT_at], hcA⟩, by rw [newT_at], fun i _ => by rw [newM_at]; rfl⟩) hlocs hl (by rw [List.map_cons, hs]; rfl) (by show _ ≤ R.cells; omega) (by show _ ≤ R.slots; omega)
theorem J_newL (h : OKx g x own cc d) {n : Int} (N : Nat) {nc' ns' : Nat} (harr : Cond.arrayClass .long ∈ tblG) (hd : decode cc pc = .ok (.newarray .long, 2)) (hn : n = (N : Int)) (hN : N ≤ 10000) (hnc : nc = 1 + nc') (hns : ns = N + ns')
    (k : Jd g x (pc + 2) ls (vR sz :: st) (newT T sz 11 N) (newM M sz) (sz + 1) nc' ns') : Jd g x pc ls (vI n :: st) T M sz nc ns := by
  obtain ⟨p, l, e, R, s, m, args, below, meth, c, Q⟩ := x
  obtain ⟨hx, hb, hown, hts, hK, -⟩ := h
  intro H locs cells slots lsC stC hR hlocs hl hs hc1 hc2
  obtain ⟨i, stC, rfl, ei, hs⟩ := st_I hs
  have hin := in_of (N := N + 1) ei hn (by omega)
  have hc1' : cells + nc ≤ R.cells := hc1
  have hc2' : slots + ns ≤ R.slots := hc2
  refine va_newaK (atype := .long) hx hb (hts _ harr) rfl hd rfl (fun q => hin.1 (Or.inl q)) hin.2 (by simp [newarray.typeOf, componentBytes]; omega) (by omega) (by omega) hR.1 fun H' cA e1 e2 e3 e4 e5 => ?_
  have hcA : cA = g.2.1 1 := Option.some.inj (e5.symm.trans (hK.1.2 1 _ rfl).2)
  exact k H' locs (cells + 1) (slots + N) lsC _ (hR.grow e2 (fun q hq => e3 q hq) (fun b hb => newT_ne hb) (fun b hb => newM_ne hb) (e := .inl (cA, N, .inr (.inl (fun _ => 0)))) (by show H'[sz]? = some (vp_cell _ _); rw [vp_cell_l]; exact e1) ⟨⟨by rw [newT_at], hcA⟩, by rw [newT_at], fun i _ => by rw [newM_at]; rfl⟩) hlocs hl (by rw [List.map_cons, hs]; rfl) (by show _ ≤ R.cells; omega) (by show _ ≤ R.slots; omega)
theorem J_newZ (h : OKx g x own cc d) {n : Int} (N : Nat) {nc' ns' : Nat} (harr : Cond.arrayClass .boolean ∈ tblG) (hd : decode cc pc = .ok (.newarray .boolean, 2)) (hn : n = (N : Int)) (hN : N ≤ 10000) (hnc : nc = 1 + nc') (hns : ns = N + ns')
    (k : Jd g x (pc + 2) ls (vR sz :: st) (newT T sz 12 N) (newM M sz) (sz + 1) nc' ns') : Jd g x pc ls (vI n :: st) T M sz nc ns := by
  obtain ⟨p, l, e, R, s, m, args, below, meth, c, Q⟩ := x
  obtain ⟨hx, hb, hown, hts, hK, -⟩ := h
  intro H locs cells slots lsC stC hR hlocs hl hs hc1 hc2
  obtain ⟨i, stC, rfl, ei, hs⟩ := st_I hs
  have hin := in_of (N := N + 1) ei hn (by omega)
  have hc1' : cells + nc ≤ R.cells := hc1
  have hc2' : slots + ns ≤ R.slots := hc2
  refine va_newaK (atype := .boolean) hx hb (hts _ harr) rfl hd rfl (fun q => hin.1 (Or.inl q)) hin.2 (by simp [newarray.typeOf, componentBytes]; omega) (by omega) (by omega) hR.1 fun H' cA e1 e2 e3 e4 e5 => ?_
  have hcA : cA = g.2.1 2 := Option.some.inj (e5.symm.trans (hK.1.2 2 _ rfl).2)
  exact k H' locs (cells + 1) (slots + N) lsC _ (hR.grow e2 (fun q hq => e3 q hq) (fun b hb => newT_ne hb) (fun b hb => newM_ne hb) (e := .inl (cA, N, .inl (fun _ => 0))) (by show H'[sz]? = some (vp_cell _ _); rw [vp_cell_i]; exact e1) ⟨Or.inr ⟨by rw [newT_at], hcA⟩, by rw [newT_at], fun i _ => by rw [newM_at]; rfl⟩) hlocs hl (by rw [List.map_cons, hs]; rfl) (by show _ ≤ R.cells; omega) (by show _ ≤ R.slots; omega)
theorem dft_num {t : FieldType} (h : numT t = true) : defaultValue t = .int 0 := by cases t <;> first | rfl | cases h
theorem J_new (h : OKx g x own cc d) {idx ci N nc' ns' : Nat} {C : String} (hC : CLok ci) (hq : ∃ q, vwCl[ci]? = some q ∧ q.1 = C ∧ q.2.2 = N) (hL : Cond.classLink own idx C ∈ tblG) (hdf : ∀ j, j < N → numT (fty ci j) = false → defaultValue (fty ci j) = .null) (hd : decode cc pc = .ok (.new idx, 3)) (hci : ci < 8) (hnc : nc = 1 + nc') (hns : ns = N + ns')
    (k : Jd g x (pc + 3) ls (vR sz :: st) (newT T sz ci 0) (newM M sz) (sz + 1) nc' ns') : Jd g x pc ls st T M sz nc ns := by
  obtain ⟨p, l, e, R, s, m, args, below, meth, c, Q⟩ := x
  obtain ⟨hx, hb, hown, hts, hK, -⟩ := h
  intro H locs cells slots lsC stC hR hlocs hl hs hc1 hc2
  obtain ⟨q, q1, rfl, rfl⟩ := hq
  obtain ⟨q', q1', q4, hty, hnm, hdc, hinst, hini⟩ := hC
  cases q1.symm.trans q1'
  have hc1' : cells + nc ≤ R.cells := hc1
  have hc2' : slots + ns ≤ R.slots := hc2
  have hKn := hK.1.1 ci _ q1
  refine W.newcK hx hb hown (hts _ hL) (hts _ hinst) (hts _ hini) rfl hd (by omega) (by omega) hKn.2.1 hR.1 fun H' kC hkC e1 e2 e3 => ?_
  have hfs : ∀ j, j < q.2.2 → defaultValue (fty ci j) = vp_V ((List.range q.2.2).map (fun j => defaultValue (fty ci j))) j := fun j hj => by
    simp [vp_V, hj]
  refine k H' locs (cells + 1) (slots + q.2.2) lsC _ (hR.grow e2 (fun z hz => e3 z hz) (fun b hb => newT_ne hb) (fun b hb => newM_ne hb) (e := .inr (ci, (List.range q.2.2).map (fun j => defaultValue (fty ci j)))) ⟨q, q1, (u_born (fty ci) hts q4 hKn hkC e1 hty).to hfs⟩ ⟨by rw [newT_at], hci, q, q1, by simp, fun j hj => ⟨fun h0 => ⟨0, ?_, by rw [newM_at]; rfl⟩, fun h0 => ?_⟩⟩) hlocs hl (by rw [List.map_cons, hs]; rfl) (by show _ ≤ R.cells; omega) (by show _ ≤ R.slots; omega)
  · rw [List.getElem?_map, List.getElem?_range hj, Option.map_some, dft_num h0]
  · rw [List.getElem?_map, List.getElem?_range hj, Option.map_some, hdf j hj h0, newT_at]; rfl
/-- a reference into a final field, in the class's own constructor -/
theorem J_putF (h : OKx g x own cc d) {idx ci j a b : Nat} (hin2 : x.2.2.2.2.2.2.2.2.1.name = "<init>") (hq0 : (vwCl[ci]?).map (·.1) = some own) (hF : FLk own idx ci j) (hC : CLok ci) (hd : decode cc pc = .ok (.putfield idx, 3)) (hT : (T a).1 = ci) (hci : ci < 8) (hn : numT (fty ci j) = false) (hb0 : narrow (fty ci j) (.ref b) = .ref b ∧ fits (fty ci j) (.ref b) = true) (hfin : ∀ q : vw_C, vwCl[ci]? = some q → (q.2.1 j).2.2.2 = true)
    (k : Jd g x (pc + 3) ls st (upT T a j (some b)) M sz nc ns) : Jd g x pc ls (vR b :: vR a :: st) T M sz nc ns := by
  obtain ⟨p, l, e, R, s, m, args, below, meth, c, Q⟩ := x
  obtain ⟨hx, hb, hown, hts, hK, -⟩ := h
  intro H locs cells slots lsC stC hR hlocs hl hs hc1 hc2
  obtain ⟨stC, rfl, hs9⟩ := st_R hs; replace hs := hs9; clear hs9
  obtain ⟨stC, rfl, hs9⟩ := st_R hs; replace hs := hs9; clear hs9
  obtain ⟨q, q1, q2, q3⟩ := hF
  obtain ⟨q', q1', q4, hty, hnm, hdc, -⟩ := hC
  cases q1.symm.trans q1'
  have hqo : q.1 = own := by rw [q1] at hq0; exact Option.some.inj hq0
  obtain ⟨fs, q', q1', q5, q6, q7⟩ := hR.obj hT hci
  cases q1.symm.trans q1'
  have hap := va_apart (own := own) hts q4 (fty ci) hty hnm hK.1 q1
  obtain ⟨r, r1, cell, g1, g2, g3, g4⟩ := q5
  cases q1.symm.trans r1
  obtain ⟨hS, hfc, kC, hkC, hkind⟩ := hK.1.1 ci _ q1
  obtain ⟨cf, kf, fi, f, hi, hsl⟩ := hS j q2
  have hlay := hts _ (q4 _ (u_in_lay q2))
  unfold u_lay at hlay
  rw [if_pos (hfin q q1)] at hlay
  have hst := (u_facts hfc hkC (u_lays hts q4 q2) hi).1
  have hcf : m.cls = cf := by
    obtain ⟨_, _, c', _, _, _, -, -, hf', -, -, -, hown2, -⟩ := Cond.laysFinal_spec hlay
    have e1 : c' = cf := by have := hi.symm.trans hf'; simp at this; exact this.1.symm
    rw [hdc j q2, hqo] at hown2
    rw [← e1]; exact Option.some.inj (hown.symm.trans hown2)
  have h6 := u_fits hfc hkC hkind (Or.inr hlay) hi (hty j q2) hb0.1 hb0.2
  refine W.putFinK hx hb hown (hts _ q3) hi hst hcf hin2 (by rw [g2]; exact h6) g1 g3 (by rw [hsl]; exact k2_hasslot (g4 j q2)) rfl rfl hd fun H' e1 e2 e3 => ?_
  rw [hsl] at e1 ⊢
  refine k H' _ cells slots lsC _ (hR.put (a := a) (by omega) e2 e3 (fun b hb => by simp [upT, hb]) (fun b _ => rfl) (e := .inr (ci, fs.set j (.ref b))) ⟨q, q1, t_OB.to (V := updV (vp_V fs) j (.ref b)) ⟨_, e1, g2, g3, t_set g4 hap q2 (.ref b)⟩ (fun z _ => vp_updV_set (by rw [q6]; exact q2) (.ref b) z)⟩ ⟨by simp [upT, hT], hci, q, q1, by rw [List.length_set, q6], fun z hz => ?_⟩) ?_ hl hs hc1 hc2
  · by_cases ez : z = j
    · subst ez
      refine ⟨fun h0 => ?_, fun _ => ?_⟩
      · rw [hn] at h0; cases h0
      · rw [List.getElem?_set_self (by rw [q6]; exact q2)]
        simp [upT, va_rf]
    · rw [List.getElem?_set_ne (Ne.symm ez)]
      obtain ⟨w1, w2⟩ := q7 z hz
      refine ⟨w1, fun h0 => ?_⟩
      rw [w2 h0]
      simp [upT, ez]
  · intro z hz
    rcases List.mem_append.mp hz with hz | hz
    · exact hlocs z hz
    · rw [List.mem_singleton.mp hz]
      exact (hR.2.2.2 a (by omega)).1
/-- Object's constructor does nothing -/
theorem J_objInit (h : OKx g x own cc (d + 1)) {idx a : Nat} (h1 : Cond.methodLink own idx Lib.objectInit ∈ tblG) (h2 : Cond.instanceMethod Lib.objectInit ∈ tblG) (h3 : Cond.code Lib.objectInit ⟨#[0xb1]⟩ 1 none ∈ tblG) (hd : decode cc pc = .ok (.invokespecial idx, 3)) (hw : (st.map vwd).sum ≤ 8)
    (k : Jd g x (pc + 3) ls st T M sz nc ns) : Jd g x pc ls (vR a :: st) T M sz nc ns := by
  obtain ⟨p, l, e, R, s, m, args, below, meth, c, Q⟩ := x
  obtain ⟨hx, hb, hown, hts, hK, hfr, hlo⟩ := h
  intro H locs cells slots lsC stC hR hlocs hl hs hc1 hc2
  obtain ⟨stC, rfl, hs9⟩ := st_R hs; replace hs := hs9; clear hs9
  have hfr' : R.frames = d + 1 := hfr
  have hlo' : R.locals = 40 * (d + 1) := hlo
  have hsum := vwd_sum stC st hs
  refine W.objInit hx hb hown (hts _ h1) (hts _ h2) (hts _ h3) rfl hl.2.1 rfl hd (by omega) (by show 2 * 0 + _ + 12 ≤ R.locals; omega) ?_
  exact k H locs cells slots lsC _ hR hlocs hl hs hc1 hc2
theorem J_invI (h : OKx g x own cc (d + 1)) {idx a mc ms nc' ns' : Nat} {μ : MD} {As st0 : List MVal} (hL : ILk own idx μ) (hM : MDok μ) (hd : decode cc pc = .ok (.invokespecial idx, 3)) (hlen : As.length = μ.2.2.2.2) (hst : st0 = As.reverse ++ (vR a :: st)) (hw : (st.map vwd).sum ≤ 8) (hnc : nc = mc + nc') (hns : ns = ms + ns') (hret : μ.2.2.2.1 = none)
    (hm : Ct g d μ (vR a :: As) T M sz mc ms (fun _ T' M' sz' => Jd g x (pc + 3) ls st T' M' sz' nc' ns')) : Jd g x pc ls st0 T M sz nc ns := by
  obtain ⟨p, l, e, R, s, m, args, below, meth, c, Qr⟩ := x
  obtain ⟨hx, hb, hown, hts, hK, hfr, hlo⟩ := h
  subst hst
  intro H locs cells slots lsC stC hR hlocs hl hs hc1 hc2
  obtain ⟨vs, rest, rfl, h1, h2, h3⟩ := rev_st hs
  obtain ⟨rest, rfl, h4⟩ := st_R h2
  have hfr' : R.frames = d + 1 := hfr
  have hlo' : R.locals = 40 * (d + 1) := hlo
  have hsum := vwd_sum rest st h4
  have hc1' : cells + nc ≤ R.cells := hc1
  have hc2' : slots + ns ≤ R.slots := hc2
  obtain ⟨yn, bs, mL, ret, np⟩ := μ
  simp only at hret
  subst hret
  have cw := cwI (R := R) (s := s) (args := args) (own := own) (index := idx) (y := yn) (bytes := bs) (maxL := mL) (ws := wsM (yn, bs, mL, none, np)) (rm := rmOf d mc ms) (mc := mc) (ms := ms) np hts (good_ws hM) rfl rfl rfl (hts _ hM.2.2.2.2) (hts _ hL.1) (hts _ hL.2.1) hL.2.2 hM.2.1 ⟨by show d + 1 ≤ _; omega, by show 8 + (mL + 11) + 40 * d ≤ _; have : mL ≤ 21 := hM.2.2.1; omega⟩
  refine run_go (g := g) (b := false) (Q := fun _ T' M' sz' => Jd g (p, l, e, R, s, m, args, below, meth, c, Qr) (pc + 3) ls st T' M' sz' nc' ns') (va_runI (As := vs) (rest := rest) (nL := c.maxLocals) (Ts := tblG) (b := a) ⟨hx, hb, rfl, hown, hts⟩ (hm l) cw ⟨PcOf.blind, fun U hU hW => ⟨by simp [h1]; rfl, by rw [hU]; exact hR, hK.warm hW⟩⟩ rfl (h3.trans hlen) hl.2.1 rfl (by show 2 * 0 + _ ≤ 8; omega) hd ⟨by omega, by omega⟩) hlocs (fun v T' M' sz' H1 locs1 hv hR1 hQ1 hlocs1 => ?_)
  cases v with
  | none => exact hQ1 H1 locs1 (cells + mc) (slots + ms) lsC _ hR1 hlocs1 hl h4 (by show _ ≤ R.cells; omega) (by show _ ≤ R.slots; omega)
  | some w => cases hv
theorem J_invN (h : OKx g x own cc (d + 1)) {idx a mc ms nc' ns' : Nat} {host : String} {μ : MD} {As st0 : List MVal} (hL : Cond.methodLinkNest own idx μ.1 host ∈ nestW) (hI : Cond.instanceMethod μ.1 ∈ tblG) (hN : μ.1.name = "<init>") (hM : MDok μ) (hd : decode cc pc = .ok (.invokespecial idx, 3)) (hlen : As.length = μ.2.2.2.2) (hst : st0 = As.reverse ++ (vR a :: st)) (hw : (st.map vwd).sum ≤ 8) (hnc : nc = mc + nc') (hns : ns = ms + ns') (hret : μ.2.2.2.1 = none)
    (hm : Ct g d μ (vR a :: As) T M sz mc ms (fun _ T' M' sz' => Jd g x (pc + 3) ls st T' M' sz' nc' ns')) : Jd g x pc ls st0 T M sz nc ns := by
  obtain ⟨p, l, e, R, s, m, args, below, meth, c, Qr⟩ := x
  obtain ⟨hx, hb, hown, hts, hK, hfr, hlo⟩ := h
  subst hst
  intro H locs cells slots lsC stC hR hlocs hl hs hc1 hc2
  obtain ⟨vs, rest, rfl, h1, h2, h3⟩ := rev_st hs
  obtain ⟨rest, rfl, h4⟩ := st_R h2
  have hfr' : R.frames = d + 1 := hfr
  have hlo' : R.locals = 40 * (d + 1) := hlo
  have hsum := vwd_sum rest st h4
  have hc1' : cells + nc ≤ R.cells := hc1
  have hc2' : slots + ns ≤ R.slots := hc2
  obtain ⟨yn, bs, mL, ret, np⟩ := μ
  simp only at hret
  subst hret
  have cw := va_cnB (R := R) (s := s) (args := args) (own := own) (host := host) (index := idx) (y := yn) (bytes := bs) (maxL := mL) (ret := none) (ws := wsM (yn, bs, mL, none, np)) (rm := rmOf d mc ms) (mc := mc) (ms := ms) np hts (good_ws hM) rfl rfl rfl (hK.2.1 _ hL) (hts _ hM.2.2.2.2) hM.2.1 ⟨by show d + 1 ≤ _; omega, by show 8 + (mL + 11) + 40 * d ≤ _; have : mL ≤ 21 := hM.2.2.1; omega⟩
  refine run_go (g := g) (b := false) (Q := fun _ T' M' sz' => Jd g (p, l, e, R, s, m, args, below, meth, c, Qr) (pc + 3) ls st T' M' sz' nc' ns') (va_runIN (As := vs) (rest := rest) (nL := c.maxLocals) (Ts := tblG) (b := a) ⟨hx, hb, rfl, hown, hts⟩ (hm l) ⟨cw, hN, hts _ hI⟩ ⟨PcOf.blind, fun U hU hW => ⟨by simp [h1]; rfl, by rw [hU]; exact hR, hK.warm hW⟩⟩ rfl (h3.trans hlen) hl.2.1 rfl (by show 2 * 0 + _ ≤ 8; omega) hd ⟨by omega, by omega⟩) hlocs (fun v T' M' sz' H1 locs1 hv hR1 hQ1 hlocs1 => ?_)
  cases v with
  | none => exact hQ1 H1 locs1 (cells + mc) (slots + ms) lsC _ hR1 hlocs1 hl h4 (by show _ ≤ R.cells; omega) (by show _ ≤ R.slots; omega)
  | some w => cases hv
theorem J_anewSh (h : OKx g x own cc d) {idx : Nat} {n : Int} (N : Nat) {nc' ns' : Nat} (hL : Cond.classLink own idx RX3 ∈ tblG) (hd : decode cc pc = .ok (.anewarray idx, 3)) (hn : n = (N : Int)) (hN : N ≤ 10000) (hnc : nc = 1 + nc') (hns : ns = N + ns')
    (k : Jd g x (pc + 3) ls (vR sz :: st) (newT T sz 15 N) (newM M sz) (sz + 1) nc' ns') : Jd g x pc ls (vI n :: st) T M sz nc ns := by
  obtain ⟨p, l, e, R, s, m, args, below, meth, c, Q⟩ := x
  obtain ⟨hx, hb, hown, hts, hK, -⟩ := h
  intro H locs cells slots lsC stC hR hlocs hl hs hc1 hc2
  obtain ⟨i, stC, rfl, ei, hs⟩ := st_I hs
  have hin := in_of (N := N + 1) ei hn (by omega)
  have hc1' : cells + nc ≤ R.cells := hc1
  have hc2' : slots + ns ≤ R.slots := hc2
  refine W.anew (C := RX3) hx hb hown (hts _ hL) (va_AO.use (hK.2.2.1 (.object RX3) (by simp [overW]))) rfl hd rfl (fun q => hin.1 (Or.inl q)) (by rw [hin.2]; omega) (by omega) (by rw [hin.2]; omega) fun cA kA comp f1 f2 f3 f4 => ?_
  rw [hin.2, hR.1]
  have z0 := hR.1
  generalize hH1 : H.push ({ cls := cA, slots := Array.replicate N .null, vm := .none } : Cell) = H1
  have z1 : H1.size = sz + 1 := by rw [← hH1, Array.size_push, z0]
  have e1 : H1[sz]? = some (arrV cA N (fun _ => .null)) := by rw [← hH1, ← z0, Array.getElem?_push_size, ← arrV_new]
  have o1 : ∀ q : Nat, q < sz → H1[q]? = H[q]? := fun q hq => by rw [← hH1, Array.getElem?_push, if_neg (by omega)]
  obtain ⟨kB, compB, b1, b2, b3, b4⟩ := (hK.1.2 5 _ rfl).2
  have hcA : cA = g.2.1 5 := Option.some.inj (f1.symm.trans b4)
  exact k H1 locs (cells + 1) (slots + N) lsC _ (hR.grow z1 o1 (fun b hb => newT_ne hb) (fun b hb => newM_ne hb) (e := .inl (cA, N, .inr (.inr (.inr (.inr (fun _ => none)))))) (by show H1[sz]? = some (vp_cell _ _); rw [vp_cell_q]; exact e1) ⟨Or.inr (Or.inr (Or.inl ⟨by rw [newT_at], hcA⟩)), by rw [newT_at], fun i _ => by rw [newT_at]⟩) hlocs hl (by rw [List.map_cons, hs]; rfl) (by show _ ≤ R.cells; omega) (by show _ ≤ R.slots; omega)
theorem J_aastSh (h : OKx g x own cc d) {a b : Nat} {i : Int} (n : Nat) (hd : decode cc pc = .ok (.aastore, 1)) (hT : (T a).1 = 15) (hTb : (T b).1 = 3) (hn : i = (n : Int)) (hlt : n < (T a).2.1)
    (k : Jd g x (pc + 1) ls st (upT T a n (some b)) M sz nc ns) : Jd g x pc ls (vR b :: vI i :: vR a :: st) T M sz nc ns := by
  obtain ⟨p, l, e, R, s, m, args, below, meth, c, Q⟩ := x
  obtain ⟨hx, hb, hown, hts, hK, -⟩ := h
  intro H locs cells slots lsC stC hR hlocs hl hs hc1 hc2
  obtain ⟨stC, rfl, hs9⟩ := st_R hs; replace hs := hs9; clear hs9
  obtain ⟨i', stC, rfl, ei, hs⟩ := st_I hs
  obtain ⟨stC, rfl, hs9⟩ := st_R hs; replace hs := hs9; clear hs9
  obtain ⟨cA, f, q5, hcA, q7⟩ := hR.refs hT (by omega)
  obtain ⟨hin, hin2⟩ := in_of (N := (T a).2.1) ei hn hlt
  obtain ⟨fs, q, q1, v5, v6, v7⟩ := hR.obj hTb (by omega)
  obtain ⟨r', hr', cellV, g1, g2, g3, -⟩ := v5
  have hcls := (hK.1.1 3 _ q1).2
  have ht : (tysW g.2.1)[5]? = some (cA, .object RX3) := by rw [hcA]; rfl
  obtain ⟨kA, comp, k1, k2, k3, -⟩ := (hK.1.2 5 _ ht).2
  have hqc : q.1 = RX3 := by have : vwCl[3]? = some q := q1; simp [vwCl] at this; rw [← this]
  have hcomp : comp = g.1.1 3 := Option.some.inj (k3.symm.trans (hqc ▸ hcls.1))
  subst hcomp
  obtain ⟨kC, hkC, -⟩ := hcls.2
  have h0 : ¬ i' < 0 := fun q => hin (Or.inl q)
  refine W.aast hx hb q5 (fun q h => by cases h) (fun h => by cases h) k1 k2 rfl hkC ⟨h0, by show _ < (arrV _ _ _).slots.size; rw [arrV_size, hin2]; exact hlt⟩ g1 (fun q h => by rw [g3] at h; cases h) (by rw [g2]; exact hkC) (by rw [g2]; exact va_assign hcls) rfl rfl hd fun H1 e1 e2 e3 => ?_
  refine k H1 _ cells slots lsC _ (hR.put (a := a) (by omega) e2 e3 (fun b hb => by simp [upT, hb]) (fun b _ => rfl) (e := .inl (cA, (T a).2.1, .inr (.inr (.inr (.inr (va_up f n (some b))))))) ?_ ⟨Or.inr (Or.inr (Or.inl ⟨by simp [upT, hT], hcA⟩)), by simp [upT], fun z hz => ?_⟩) ?_ hl hs hc1 hc2
  · show H1[a]? = some (vp_cell _ _)
    rw [e1, vp_cell_q, vp_cell_q, arrV_store, hin2]
    congr 2
    funext z
    by_cases hz : z = n
    · subst hz; simp [updV, va_up, va_rf]
    · simp [updV, va_up, hz]
  · by_cases ez : z = n
    · subst ez; simp [va_up, upT]
    · simp [va_up, upT, ez]; exact q7 z hz
  · intro z hz
    rcases List.mem_append.mp hz with hz | hz
    · exact hlocs z hz
    · rw [List.mem_singleton.mp hz]
      exact (hR.2.2.2 a (by omega)).1
theorem J_anewYd (h : OKx g x own cc d) {idx : Nat} {n : Int} (N : Nat) {nc' ns' : Nat} (hL : Cond.classLink own idx RX5 ∈ tblG) (hd : decode cc pc = .ok (.anewarray idx, 3)) (hn : n = (N : Int)) (hN : N ≤ 10000) (hnc : nc = 1 + nc') (hns : ns = N + ns')
    (k : Jd g x (pc + 3) ls (vR sz :: st) (newT T sz 16 N) (newM M sz) (sz + 1) nc' ns') : Jd g x pc ls (vI n :: st) T M sz nc ns := by
  obtain ⟨p, l, e, R, s, m, args, below, meth, c, Q⟩ := x
  obtain ⟨hx, hb, hown, hts, hK, -⟩ := h
  intro H locs cells slots lsC stC hR hlocs hl hs hc1 hc2
  obtain ⟨i, stC, rfl, ei, hs⟩ := st_I hs
  have hin := in_of (N := N + 1) ei hn (by omega)
  have hc1' : cells + nc ≤ R.cells := hc1
  have hc2' : slots + ns ≤ R.slots := hc2
  refine W.anew (C := RX5) hx hb hown (hts _ hL) (va_AO.use (hK.2.2.1 (.object RX5) (by simp [overW]))) rfl hd rfl (fun q => hin.1 (Or.inl q)) (by rw [hin.2]; omega) (by omega) (by rw [hin.2]; omega) fun cA kA comp f1 f2 f3 f4 => ?_
  rw [hin.2, hR.1]
  have z0 := hR.1
  generalize hH1 : H.push ({ cls := cA, slots := Array.replicate N .null, vm := .none } : Cell) = H1
  have z1 : H1.size = sz + 1 := by rw [← hH1, Array.size_push, z0]
  have e1 : H1[sz]? = some (arrV cA N (fun _ => .null)) := by rw [← hH1, ← z0, Array.getElem?_push_size, ← arrV_new]
  have o1 : ∀ q : Nat, q < sz → H1[q]? = H[q]? := fun q hq => by rw [← hH1, Array.getElem?_push, if_neg (by omega)]
  obtain ⟨kB, compB, b1, b2, b3, b4⟩ := (hK.1.2 6 _ rfl).2
  have hcA : cA = g.2.1 6 := Option.some.inj (f1.symm.trans b4)
  exact k H1 locs (cells + 1) (slots + N) lsC _ (hR.grow z1 o1 (fun b hb => newT_ne hb) (fun b hb => newM_ne hb) (e := .inl (cA, N, .inr (.inr (.inr (.inr (fun _ => none)))))) (by show H1[sz]? = some (vp_cell _ _); rw [vp_cell_q]; exact e1) ⟨Or.inr (Or.inr (Or.inr ⟨by rw [newT_at], hcA⟩)), by rw [newT_at], fun i _ => by rw [newT_at]⟩) hlocs hl (by rw [List.map_cons, hs]; rfl) (by show _ ≤ R.cells; omega) (by show _ ≤ R.slots; omega)
theorem J_aastYd (h : OKx g x own cc d) {a b : Nat} {i : Int} (n : Nat) (hd : decode cc pc = .ok (.aastore, 1)) (hT : (T a).1 = 16) (hTb : (T b).1 = 5) (hn : i = (n : Int)) (hlt : n < (T a).2.1)
    (k : Jd g x (pc + 1) ls st (upT T a n (some b)) M sz nc ns) : Jd g x pc ls (vR b :: vI i :: vR a :: st) T M sz nc ns := by
  obtain ⟨p, l, e, R, s, m, args, below, meth, c, Q⟩ := x
  obtain ⟨hx, hb, hown, hts, hK, -⟩ := h
  intro H locs cells slots lsC stC hR hlocs hl hs hc1 hc2
  obtain ⟨stC, rfl, hs9⟩ := st_R hs; replace hs := hs9; clear hs9
  obtain ⟨i', stC, rfl, ei, hs⟩ := st_I hs
  obtain ⟨stC, rfl, hs9⟩ := st_R hs; replace hs := hs9; clear hs9
  obtain ⟨cA, f, q5, hcA, q7⟩ := hR.refs hT (by omega)
  obtain ⟨hin, hin2⟩ := in_of (N := (T a).2.1) ei hn hlt
  obtain ⟨fs, q, q1, v5, v6, v7⟩ := hR.obj hTb (by omega)
  obtain ⟨r', hr', cellV, g1, g2, g3, -⟩ := v5
  have hcls := (hK.1.1 5 _ q1).2
  have ht : (tysW g.2.1)[6]? = some (cA, .object RX5) := by rw [hcA]; rfl
  obtain ⟨kA, comp, k1, k2, k3, -⟩ := (hK.1.2 6 _ ht).2
  have hqc : q.1 = RX5 := by have : vwCl[5]? = some q := q1; simp [vwCl] at this; rw [← this]
  have hcomp : comp = g.1.1 5 := Option.some.inj (k3.symm.trans (hqc ▸ hcls.1))
  subst hcomp
  obtain ⟨kC, hkC, -⟩ := hcls.2
  have h0 : ¬ i' < 0 := fun q => hin (Or.inl q)
  refine W.aast hx hb q5 (fun q h => by cases h) (fun h => by cases h) k1 k2 rfl hkC ⟨h0, by show _ < (arrV _ _ _).slots.size; rw [arrV_size, hin2]; exact hlt⟩ g1 (fun q h => by rw [g3] at h; cases h) (by rw [g2]; exact hkC) (by rw [g2]; exact va_assign hcls) rfl rfl hd fun H1 e1 e2 e3 => ?_
  refine k H1 _ cells slots lsC _ (hR.put (a := a) (by omega) e2 e3 (fun b hb => by simp [upT, hb]) (fun b _ => rfl) (e := .inl (cA, (T a).2.1, .inr (.inr (.inr (.inr (va_up f n (some b))))))) ?_ ⟨Or.inr (Or.inr (Or.inr ⟨by simp [upT, hT], hcA⟩)), by simp [upT], fun z hz => ?_⟩) ?_ hl hs hc1 hc2
  · show H1[a]? = some (vp_cell _ _)
    rw [e1, vp_cell_q, vp_cell_q, arrV_store, hin2]
    congr 2
    funext z
    by_cases hz : z = n
    · subst hz; simp [updV, va_up, va_rf]
    · simp [updV, va_up, hz]
  · by_cases ez : z = n
    · subst ez; simp [va_up, upT]
    · simp [va_up, upT, ez]; exact q7 z hz
  · intro z hz
    rcases List.mem_append.mp hz with hz | hz
    · exact hlocs z hz
    · rw [List.mem_singleton.mp hz]
      exact (hR.2.2.2 a (by omega)).1
/-- rows of rows -/
def mulT (T : TT) (a kd ki n k : Nat) : TT := fun b => if b = a then (kd, n, fun j => if j < n then some (a + 1 + j) else none) else if a < b ∧ b ≤ a + n then (ki, k, fun _ => none) else T b
def mulM (M : MM) (a n : Nat) : MM := fun b j => if a ≤ b ∧ b ≤ a + n then 0 else M b j
theorem J_mulI (h : OKx g x own cc d) {idx : Nat} {n k : Int} (N K : Nat) {nc' ns' : Nat} {C : String} (eC : C = "[" ++ (FieldType.array .int).toString) (hL : Cond.classLink own idx C ∈ tblG) (harr : Cond.arrayClass .int ∈ tblG) (hd : decode cc pc = .ok (.multianewarray idx 2, 4)) (hn : n = (N : Int)) (hk : k = (K : Int)) (hN : N ≤ 1000) (hKb : K ≤ 1000) (hnc : nc = (1 + N) + nc') (hns : ns = (N + N * K) + ns')
    (kk : Jd g x (pc + 4) ls (vR sz :: st) (mulT T sz 13 10 N K) (mulM M sz N) (sz + 1 + N) nc' ns') : Jd g x pc ls (vI k :: vI n :: st) T M sz nc ns := by
  subst eC
  obtain ⟨p, l, e, R, s, m, args, below, meth, c, Q⟩ := x
  obtain ⟨hx, hb, hown, hts, hK, -⟩ := h
  intro H locs cells slots lsC stC hR hlocs hl hs hc1 hc2
  obtain ⟨k', stC, rfl, ek, hs⟩ := st_I hs
  obtain ⟨n', stC, rfl, en, hs⟩ := st_I hs
  have hink := in_of (N := K + 1) ek hk (by omega)
  have hinn := in_of (N := N + 1) en hn (by omega)
  have hc1' : cells + nc ≤ R.cells := hc1
  have hc2' : slots + ns ≤ R.slots := hc2
  have hb' : c.code = cc := hb
  intro U hU X
  obtain ⟨vm₁, cA, comp, hW, hfA, hfC, hO, hI, X1, step⟩ := X.multianewarray2F hx (ty := .int) hown (hts _ hL) (over_use (hK.2.2.1 (.array .int) (by simp [overW]))) (hts _ harr) (g := F0 m pc lsC (.int k' :: .int n' :: stC)) rfl (by rw [hb']; exact hd) rfl (fun q => hinn.1 (Or.inl q)) (fun q => hink.1 (Or.inl q)) (by rw [hinn.2]; omega) (by rw [hink.2]; simp [componentBytes]; omega) (by rw [hink.2]; omega) rfl rfl (by rw [hinn.2]; omega) (by rw [hinn.2, hink.2]; omega)
  rw [hinn.2, hink.2] at X1 step
  obtain ⟨f1, f2, f3, f4⟩ := Jvm.Free.Multi.fill_facts (U.setVm vm₁) cA comp N K (defaultValue .int) N
  have fo := fun (a : Addr) (ha : a < U.heap.size) => Jvm.Free.Multi.fill_old (U.setVm vm₁) cA comp N K (defaultValue .int) (a := a) ha N
  have fi := fun (j : Nat) (hj : j < N) => Jvm.Free.Multi.fill_inner (U.setVm vm₁) cA comp N K (defaultValue .int) N j hj
  obtain ⟨o1, o2, o3⟩ := Jvm.Free.Multi.outerC_facts cA N U.heap.size N
  have os := fun (j : Nat) (hj : j < N) => Jvm.Free.Multi.outerC_slot cA N U.heap.size N j hj
  have z0 : U.heap.size = sz := by rw [hU]; exact hR.1
  have hcA : cA = g.2.1 3 := Option.some.inj (hfA.symm.trans (hK.1.2 3 _ rfl).2)
  have hcI : comp = g.2.1 0 := Option.some.inj (hfC.symm.trans (hK.1.2 0 _ rfl).2)
  have eo : Jvm.Free.Multi.outerC cA N U.heap.size N = arrV cA N (fun j => va_rf (if j < N then some (sz + 1 + j) else none)) := by rw [outer_arr, z0]
  have hRn : RepH g (mulT T sz 13 10 N K) (mulM M sz N) (sz + 1 + N) (Jvm.Free.Multi.fill (U.setVm vm₁) cA comp N K (defaultValue .int) N).heap := by
    obtain ⟨h3, h4, h5, h6⟩ := hR
    refine ⟨by rw [f1]; show U.heap.size + 1 + N = _; rw [z0], by omega, fun q hq => by rw [fo q (show q < U.heap.size by rw [z0]; omega)]; show U.heap[q]? = _; rw [hU]; exact h5 q hq, fun a ha => ?_⟩
    by_cases ea : a = sz
    · subst ea
      refine ⟨h4, by omega, .inl (cA, N, .inr (.inr (.inr (.inr (fun j => if j < N then some (a + 1 + j) else none))))), ?_, Or.inl ⟨by simp [mulT], hcA⟩, by simp [mulT], fun i hi => by simp [mulT]⟩
      show (Jvm.Free.Multi.fill (U.setVm vm₁) cA comp N K (defaultValue .int) N).heap[a]? = some (vp_cell _ _)
      rw [vp_cell_q, ← eo]
      have : (U.setVm vm₁).heap.size = a := z0
      rw [this] at f2
      rw [z0]; exact f2
    · by_cases eb : sz < a ∧ a ≤ sz + N
      · have hmi : mulT T sz 13 10 N K a = (10, K, fun _ => none) := by unfold mulT; rw [if_neg ea, if_pos eb]
        have hmi1 : (mulT T sz 13 10 N K a).1 = 10 := by rw [hmi]
        refine ⟨by omega, by omega, .inl (comp, K, .inl (fun _ => 0)), ?_, Or.inl ⟨hmi1, hcI⟩, by rw [hmi], fun i hi => ?_⟩
        · show (Jvm.Free.Multi.fill (U.setVm vm₁) cA comp N K (defaultValue .int) N).heap[a]? = some (vp_cell _ _)
          have h9 := fi (a - sz - 1) (by omega)
          have : (U.setVm vm₁).heap.size + 1 + (a - sz - 1) = a := by show U.heap.size + 1 + _ = _; omega
          rw [this] at h9
          rw [h9, vp_cell_i]
          show some ({ cls := comp, slots := Array.replicate K _, vm := .none } : Cell) = _
          rw [arrV_new]; rfl
        · show _ = mulM M sz N a i
          unfold mulM; rw [if_pos (by omega)]; rfl
      · have e1 : mulT T sz 13 10 N K a = T a := by unfold mulT; rw [if_neg ea, if_neg eb]
        rw [e1] at ha ⊢
        obtain ⟨j1, j2, e2, j3, j4⟩ := h6 a ha
        have e3 : mulM M sz N a = M a := funext fun j => by unfold mulM; rw [if_neg (by omega)]
        rw [e3]
        exact ⟨j1, by omega, e2, j3.kept (by rw [fo a (show a < U.heap.size by rw [z0]; exact j2)]; show U.heap[a]? = _; rw [hU]), j4⟩
  obtain ⟨t, a1, b1⟩ := kk _ locs (cells + 1 + N) (slots + N + N * K) lsC (.ref sz :: stC) hRn hlocs hl (by rw [List.map_cons, hs]; rfl) (by show _ ≤ R.cells; omega) (by show _ ≤ R.slots; omega) _ rfl X1
  exact ⟨t, step t (by rw [z0]; exact a1), b1⟩
theorem J_mulL (h : OKx g x own cc d) {idx : Nat} {n k : Int} (N K : Nat) {nc' ns' : Nat} {C : String} (eC : C = "[" ++ (FieldType.array .long).toString) (hL : Cond.classLink own idx C ∈ tblG) (harr : Cond.arrayClass .long ∈ tblG) (hd : decode cc pc = .ok (.multianewarray idx 2, 4)) (hn : n = (N : Int)) (hk : k = (K : Int)) (hN : N ≤ 1000) (hKb : K ≤ 1000) (hnc : nc = (1 + N) + nc') (hns : ns = (N + N * K) + ns')
    (kk : Jd g x (pc + 4) ls (vR sz :: st) (mulT T sz 14 11 N K) (mulM M sz N) (sz + 1 + N) nc' ns') : Jd g x pc ls (vI k :: vI n :: st) T M sz nc ns := by
  subst eC
  obtain ⟨p, l, e, R, s, m, args, below, meth, c, Q⟩ := x
  obtain ⟨hx, hb, hown, hts, hK, -⟩ := h
  intro H locs cells slots lsC stC hR hlocs hl hs hc1 hc2
  obtain ⟨k', stC, rfl, ek, hs⟩ := st_I hs
  obtain ⟨n', stC, rfl, en, hs⟩ := st_I hs
  have hink := in_of (N := K + 1) ek hk (by omega)
  have hinn := in_of (N := N + 1) en hn (by omega)
  have hc1' : cells + nc ≤ R.cells := hc1
  have hc2' : slots + ns ≤ R.slots := hc2
  have hb' : c.code = cc := hb
  intro U hU X
  obtain ⟨vm₁, cA, comp, hW, hfA, hfC, hO, hI, X1, step⟩ := X.multianewarray2F hx (ty := .long) hown (hts _ hL) (over_use (hK.2.2.1 (.array .long) (by simp [overW]))) (hts _ harr) (g := F0 m pc lsC (.int k' :: .int n' :: stC)) rfl (by rw [hb']; exact hd) rfl (fun q => hinn.1 (Or.inl q)) (fun q => hink.1 (Or.inl q)) (by rw [hinn.2]; omega) (by rw [hink.2]; simp [componentBytes]; omega) (by rw [hink.2]; omega) rfl rfl (by rw [hinn.2]; omega) (by rw [hinn.2, hink.2]; omega)
  rw [hinn.2, hink.2] at X1 step
  obtain ⟨f1, f2, f3, f4⟩ := Jvm.Free.Multi.fill_facts (U.setVm vm₁) cA comp N K (defaultValue .long) N
  have fo := fun (a : Addr) (ha : a < U.heap.size) => Jvm.Free.Multi.fill_old (U.setVm vm₁) cA comp N K (defaultValue .long) (a := a) ha N
  have fi := fun (j : Nat) (hj : j < N) => Jvm.Free.Multi.fill_inner (U.setVm vm₁) cA comp N K (defaultValue .long) N j hj
  obtain ⟨o1, o2, o3⟩ := Jvm.Free.Multi.outerC_facts cA N U.heap.size N
  have os := fun (j : Nat) (hj : j < N) => Jvm.Free.Multi.outerC_slot cA N U.heap.size N j hj
  have z0 : U.heap.size = sz := by rw [hU]; exact hR.1
  have hcA : cA = g.2.1 4 := Option.some.inj (hfA.symm.trans (hK.1.2 4 _ rfl).2)
  have hcI : comp = g.2.1 1 := Option.some.inj (hfC.symm.trans (hK.1.2 1 _ rfl).2)
  have eo : Jvm.Free.Multi.outerC cA N U.heap.size N = arrV cA N (fun j => va_rf (if j < N then some (sz + 1 + j) else none)) := by rw [outer_arr, z0]
  have hRn : RepH g (mulT T sz 14 11 N K) (mulM M sz N) (sz + 1 + N) (Jvm.Free.Multi.fill (U.setVm vm₁) cA comp N K (defaultValue .long) N).heap := by
    obtain ⟨h3, h4, h5, h6⟩ := hR
    refine ⟨by rw [f1]; show U.heap.size + 1 + N = _; rw [z0], by omega, fun q hq => by rw [fo q (show q < U.heap.size by rw [z0]; omega)]; show U.heap[q]? = _; rw [hU]; exact h5 q hq, fun a ha => ?_⟩
    by_cases ea : a = sz
    · subst ea
      refine ⟨h4, by omega, .inl (cA, N, .inr (.inr (.inr (.inr (fun j => if j < N then some (a + 1 + j) else none))))), ?_, Or.inr (Or.inl ⟨by simp [mulT], hcA⟩), by simp [mulT], fun i hi => by simp [mulT]⟩
      show (Jvm.Free.Multi.fill (U.setVm vm₁) cA comp N K (defaultValue .long) N).heap[a]? = some (vp_cell _ _)
      rw [vp_cell_q, ← eo]
      have : (U.setVm vm₁).heap.size = a := z0
      rw [this] at f2
      rw [z0]; exact f2
    · by_cases eb : sz < a ∧ a ≤ sz + N
      · have hmi : mulT T sz 14 11 N K a = (11, K, fun _ => none) := by unfold mulT; rw [if_neg ea, if_pos eb]
        have hmi1 : (mulT T sz 14 11 N K a).1 = 11 := by rw [hmi]
        refine ⟨by omega, by omega, .inl (comp, K, .inr (.inl (fun _ => 0))), ?_, ⟨hmi1, hcI⟩, by rw [hmi], fun i hi => ?_⟩
        · show (Jvm.Free.Multi.fill (U.setVm vm₁) cA comp N K (defaultValue .long) N).heap[a]? = some (vp_cell _ _)
          have h9 := fi (a - sz - 1) (by omega)
          have : (U.setVm vm₁).heap.size + 1 + (a - sz - 1) = a := by show U.heap.size + 1 + _ = _; omega
          rw [this] at h9
          rw [h9, vp_cell_l]
          show some ({ cls := comp, slots := Array.replicate K _, vm := .none } : Cell) = _
          rw [arrV_new]; rfl
        · show _ = mulM M sz N a i
          unfold mulM; rw [if_pos (by omega)]; rfl
      · have e1 : mulT T sz 14 11 N K a = T a := by unfold mulT; rw [if_neg ea, if_neg eb]
        rw [e1] at ha ⊢
        obtain ⟨j1, j2, e2, j3, j4⟩ := h6 a ha
        have e3 : mulM M sz N a = M a := funext fun j => by unfold mulM; rw [if_neg (by omega)]
        rw [e3]
        exact ⟨j1, by omega, e2, j3.kept (by rw [fo a (show a < U.heap.size by rw [z0]; exact j2)]; show U.heap[a]? = _; rw [hU]), j4⟩
  obtain ⟨t, a1, b1⟩ := kk _ locs (cells + 1 + N) (slots + N + N * K) lsC (.ref sz :: stC) hRn hlocs hl (by rw [List.map_cons, hs]; rfl) (by show _ ≤ R.cells; omega) (by show _ ≤ R.slots; omega) _ rfl X1
  exact ⟨t, step t (by rw [z0]; exact a1), b1⟩
end
theorem ac_int : Cond.arrayClass .int ∈ tblG := inG (List.mem_of_getElem? (i := 111) (by decide +kernel)) rfl
theorem ac_long : Cond.arrayClass .long ∈ tblG := inG (List.mem_of_getElem? (i := 221) (by decide +kernel)) rfl
theorem ac_boolean : Cond.arrayClass .boolean ∈ tblG := inG (List.mem_of_getElem? (i := 173) (by decide +kernel)) rfl
theorem cl_L_7 : Cond.classLink RL 7 "ThroughTheChain" ∈ tblG := inG (List.mem_of_getElem? (i := 15) (by decide +kernel)) rfl
theorem cl_X6_7 : Cond.classLink RX6 7 "ThroughTheChain$Yard" ∈ tblG := inG (List.mem_of_getElem? (i := 23) (by decide +kernel)) rfl
theorem cl_X5_30 : Cond.classLink RX5 30 "[[I" ∈ tblG := inG (List.mem_of_getElem? (i := 29) (by decide +kernel)) rfl
theorem cl_X6_22 : Cond.classLink RX6 22 "ThroughTheChain$Player" ∈ tblG := inG (List.mem_of_getElem? (i := 112) (by decide +kernel)) rfl
theorem cl_X6_31 : Cond.classLink RX6 31 "ThroughTheChain$Game" ∈ tblG := inG (List.mem_of_getElem? (i := 130) (by decide +kernel)) rfl
theorem cl_X0_9 : Cond.classLink RX0 9 "ThroughTheChain$Yard" ∈ tblG := inG (List.mem_of_getElem? (i := 136) (by decide +kernel)) rfl
theorem cl_X6_38 : Cond.classLink RX6 38 "ThroughTheChain$Orders" ∈ tblG := inG (List.mem_of_getElem? (i := 147) (by decide +kernel)) rfl
theorem cl_X6_45 : Cond.classLink RX6 45 "ThroughTheChain$Tape" ∈ tblG := inG (List.mem_of_getElem? (i := 174) (by decide +kernel)) rfl
theorem cl_X6_52 : Cond.classLink RX6 52 "ThroughTheChain$Shelf" ∈ tblG := inG (List.mem_of_getElem? (i := 201) (by decide +kernel)) rfl
theorem cl_L_10 : Cond.classLink RL 10 "ThroughTheChainModel" ∈ tblG := inG (List.mem_of_getElem? (i := 869) (by decide +kernel)) rfl
theorem cl_X7_19 : Cond.classLink RX7 19 "[[J" ∈ tblG := inG (List.mem_of_getElem? (i := 875) (by decide +kernel)) rfl
theorem cl_X7_52 : Cond.classLink RX7 52 "[[I" ∈ tblG := inG (List.mem_of_getElem? (i := 877) (by decide +kernel)) rfl
theorem cl_X7_8 : Cond.classLink RX7 8 "ThroughTheChainModel" ∈ tblG := inG (List.mem_of_getElem? (i := 1112) (by decide +kernel)) rfl
theorem oi_inst : Cond.instanceMethod Lib.objectInit ∈ tblG := inG (List.mem_of_getElem? (i := 21) (by decide +kernel)) rfl
theorem oi_code : Cond.code Lib.objectInit ⟨#[0xb1]⟩ 1 none ∈ tblG := inG (List.mem_of_getElem? (i := 22) (by decide +kernel)) rfl
theorem oi_X6 : Cond.methodLink RX6 1 Lib.objectInit ∈ tblG := inG (List.mem_of_getElem? (i := 20) (by decide +kernel)) rfl
theorem oi_X0 : Cond.methodLink RX0 3 Lib.objectInit ∈ tblG := inG (List.mem_of_getElem? (i := 135) (by decide +kernel)) rfl
theorem oi_X1 : Cond.methodLink RX1 3 Lib.objectInit ∈ tblG := inG (List.mem_of_getElem? (i := 152) (by decide +kernel)) rfl
theorem oi_X2 : Cond.methodLink RX2 3 Lib.objectInit ∈ tblG := inG (List.mem_of_getElem? (i := 117) (by decide +kernel)) rfl
theorem oi_X3 : Cond.methodLink RX3 3 Lib.objectInit ∈ tblG := inG (List.mem_of_getElem? (i := 207) (by decide +kernel)) rfl
theorem oi_X4 : Cond.methodLink RX4 3 Lib.objectInit ∈ tblG := inG (List.mem_of_getElem? (i := 179) (by decide +kernel)) rfl
theorem oi_X5 : Cond.methodLink RX5 3 Lib.objectInit ∈ tblG := inG (List.mem_of_getElem? (i := 28) (by decide +kernel)) rfl
theorem oi_X7 : Cond.methodLink RX7 1 Lib.objectInit ∈ tblG := inG (List.mem_of_getElem? (i := 874) (by decide +kernel)) rfl
theorem in_X0_init : Cond.instanceMethod yX0_init ∈ tblG := inG (List.mem_of_getElem? (i := 133) (by decide +kernel)) rfl
theorem in_X1_init : Cond.instanceMethod yX1_init ∈ tblG := inG (List.mem_of_getElem? (i := 150) (by decide +kernel)) rfl
theorem in_X2_init : Cond.instanceMethod yX2_init ∈ tblG := inG (List.mem_of_getElem? (i := 115) (by decide +kernel)) rfl
theorem in_X3_init : Cond.instanceMethod yX3_init ∈ tblG := inG (List.mem_of_getElem? (i := 205) (by decide +kernel)) rfl
theorem in_X4_init : Cond.instanceMethod yX4_init ∈ tblG := inG (List.mem_of_getElem? (i := 177) (by decide +kernel)) rfl
theorem in_X5_init : Cond.instanceMethod yX5_init ∈ tblG := inG (List.mem_of_getElem? (i := 26) (by decide +kernel)) rfl
theorem in_X6_init : Cond.instanceMethod yX6_init ∈ tblG := inG (List.mem_of_getElem? (i := 18) (by decide +kernel)) rfl
theorem in_X7_init : Cond.instanceMethod yX7_init ∈ tblG := inG (List.mem_of_getElem? (i := 872) (by decide +kernel)) rfl
