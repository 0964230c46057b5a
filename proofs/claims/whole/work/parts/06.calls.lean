/-! contracts, entries, calls -/
abbrev MD : Type := MethodName × ByteArray × Nat × Option FieldType × Nat
def rmOf (d mc ms : Nat) : Room := { frames := d, cells := mc, slots := ms, locals := 40 * d }
def PcOf (g : WG) (as : List MVal) (T : TT) (M : MM) (sz : Nat) : Array Value → State → Prop := fun a U => a.toList.map vabs = as ∧ RepH g T M sz U.heap ∧ K0 g U
abbrev wsM (μ : MD) : List Cond := Cond.code μ.1 μ.2.1 μ.2.2.1 μ.2.2.2.1 :: tblG
def Ct (g : WG) (d : Nat) (μ : MD) (as : List MVal) (T : TT) (M : MM) (sz mc ms : Nat) (Q : MVal → TT → MM → Nat → Prop) : Prop :=
  ∀ l : Launch, Met l μ.1 (wsM μ) (rmOf d mc ms) (PcOf g as T M sz) (QcOf g μ.2.2.2.1.isSome Q) mc ms (fun q => g.2.2.1 ≤ q)
def MDok (μ : MD) : Prop := plainName μ.1.cls = true ∧ (μ.1.cls ≠ "java/lang/invoke/MethodHandle" ∧ μ.1.cls ≠ "java/lang/invoke/VarHandle" ∧ (parseMethodDescriptor μ.1.desc).map (fun d => d.parameters.length) = some μ.2.2.2.2) ∧ μ.2.2.1 ≤ 21 ∧ Cond.code μ.1 μ.2.1 μ.2.2.1 μ.2.2.2.1 ∈ tblG ∧ .initialized μ.1.cls ∈ tblG
def isLv (x : MVal) : Bool := match x with
  | .inr (.inl _) => true
  | _ => false
def entL : List MVal → List MVal
  | [] => []
  | v :: r => if isLv v then v :: vU :: entL r else v :: entL r
theorem entL_len : ∀ vs : List Value, (∀ v ∈ vs, vabs v ≠ vU) → (lg_sl vs).length = (entL (vs.map vabs)).length
  | [], _ => rfl
  | v :: vs, h => by
    have ih := entL_len vs (fun w hw => h w (List.mem_cons_of_mem _ hw))
    have hv := h v List.mem_cons_self
    unfold lg_sl at ih ⊢
    rw [List.flatMap_cons, List.length_append, ih, List.map_cons]
    cases v with
    | long z => simp [entL, isLv, vabs, vL, Value.category]; omega
    | double z => exact absurd rfl hv
    | float z => exact absurd rfl hv
    | retAddr z => exact absurd rfl hv
    | int z => simp [entL, isLv, vabs, vI, Value.category]; omega
    | ref z => simp [entL, isLv, vabs, vR, Value.category]; omega
    | null => simp [entL, isLv, vabs, vN, Value.category]; omega
theorem entL_at : ∀ (vs : List Value), (∀ v ∈ vs, vabs v ≠ vU) → ∀ (i : Nat) (x : MVal), (entL (vs.map vabs))[i]? = some x → x ≠ vU → ∃ v, (lg_sl vs)[i]? = some (.val v) ∧ vabs v = x
  | [], _, i, x, hi, _ => by simp [entL] at hi
  | v :: vs, h, i, x, hi, hx => by
    have ih := entL_at vs (fun w hw => h w (List.mem_cons_of_mem _ hw))
    have hv := h v List.mem_cons_self
    have e : lg_sl (v :: vs) = (if v.category = 2 then [.val v, .second] else [.val v]) ++ lg_sl vs := by simp [lg_sl]
    rw [e]
    rw [List.map_cons] at hi
    by_cases hc : isLv (vabs v) = true
    · have hcat : v.category = 2 := by cases v <;> first | rfl | cases hc
      rw [if_pos hcat]
      simp only [entL, hc, if_true] at hi
      match i, hi with
      | 0, hi => cases hi; exact ⟨v, rfl, rfl⟩
      | 1, hi => cases hi; exact absurd rfl hx
      | i + 2, hi => exact ih i x hi hx
    · have hcat : ¬ v.category = 2 := by
        cases v with
        | long z => exact absurd rfl hc
        | double z => exact absurd rfl hv
        | _ => simp [Value.category]
      rw [if_neg hcat]
      simp only [entL, hc] at hi
      match i, hi with
      | 0, hi => cases hi; exact ⟨v, rfl, rfl⟩
      | i + 1, hi => exact ih i x hi hx
theorem entRep {vs : List Value} {as ls : List MVal} {n : Nat} (hvs : vs.map vabs = as) (hu : ∀ v ∈ as, v ≠ vU) (hn : (entL as).length ≤ n) (hls : entL as ++ List.replicate (n - (entL as).length) vU = ls) : LRep n ((lg_sl vs ++ List.replicate (n - (lg_sl vs).length) Slot.unset).toArray) ls := by
  subst hvs
  have hu' : ∀ v ∈ vs, vabs v ≠ vU := fun v hv => hu _ (List.mem_map.mpr ⟨v, hv, rfl⟩)
  have e := entL_len vs hu'
  have hh := lv_entry vs (n := n) (by rw [e]; exact hn)
  subst hls
  refine ⟨?_, hh.1, hh.2.1, fun i x hi hx => ?_⟩
  · rw [hh.1, List.length_append, List.length_replicate]
    omega
  · by_cases hl : i < (entL (vs.map vabs)).length
    · rw [List.getElem?_append_left hl] at hi
      obtain ⟨v, h1, h2⟩ := entL_at vs hu' i x hi hx
      refine ⟨v, ?_, h2⟩
      rw [List.getElem?_toArray, List.getElem?_append_left (by rw [e]; exact hl)]
      exact h1
    · rw [List.getElem?_append_right (by omega)] at hi
      have := List.eq_of_mem_replicate (List.mem_of_getElem? hi)
      exact absurd this hx
theorem Ct_of {g : WG} {d : Nat} {μ : MD} {as ls : List MVal} {T : TT} {M : MM} {sz mc ms : Nat} {Q : MVal → TT → MM → Nat → Prop} (hM : MDok μ) (hu : ∀ v ∈ as, v ≠ vU) (hn : (entL as).length ≤ μ.2.2.1) (hls : entL as ++ List.replicate (μ.2.2.1 - (entL as).length) vU = ls)
    (body : ∀ x : CX, OKx g x μ.1.cls μ.2.1 d → RTx g x μ.2.2.2.1 Q → x.2.2.2.2.2.2.2.2.1.name = μ.1.name → Jd g x 0 ls [] T M sz mc ms) : Ct g d μ as T M sz mc ms Q := by
  intro l
  refine Met.ofW (cc := μ.2.1) (maxL := μ.2.2.1) (ret := μ.2.2.2.1) hM.1 rfl ?_
  intro p e s m args below meth c s₁ B hml hv
  obtain ⟨ha, hR, hK⟩ := hv
  have hts := atoms_spec (ws := wsM μ) B.pre
  have hown : s.vm.findClass μ.1.cls = some m.cls := findClass_of_methodNamed B.named
  have hnm : meth.name = μ.1.name := (name_of_methodNamed B.named B.method).1
  have e1 : args = args.toList.toArray := by simp
  rw [e1, lg_entry_eq]
  rw [← e1]
  exact body (p, l, e, (headSpec (wsM μ) (rmOf d mc ms)).room, s, m, args, below, meth, c, MQ below (QcOf g μ.2.2.2.1.isSome Q) args s mc ms (fun q => g.2.2.1 ≤ q))
    ⟨B.exec, B.bytes, hown, fun w hw => hts w (List.mem_cons_of_mem _ hw), hK, rfl, rfl⟩ ⟨B.returns, B.notSynchronized, rfl⟩ hnm
    s.heap [] 0 0 _ [] hR (fun q hq => by cases hq) (by show LRep c.maxLocals _ _; rw [hml]; exact entRep ha hu hn hls) rfl (by show 0 + mc ≤ mc; omega) (by show 0 + ms ≤ ms; omega)
section
variable {p : Program} {l : Launch} {e : Env} {R : Room} {s : State} {m : MethodId} {args : Array Value} {below : List Frame} {meth : Method} {c : Code} {H : Heap} {locs : List Loc} {cells slots : Nat} {Qr : State → Prop}
theorem run_go {g : WG} {b : Bool} {Q : MVal → TT → MM → Nat → Prop} {pc mc ms : Nat} {lsC : Array Slot} {st0 rest : List Value} {a : Array Value} (hr : va_Run p l e R s m args below meth c H locs cells slots mc ms (F0 m pc lsC st0) rest (QcOf g b Q a) (fun q => g.2.2.1 ≤ q)) (hlocs : ∀ q ∈ locs, g.2.2.1 ≤ q.base)
    (kk : ∀ (v : Option Value) (T' : TT) (M' : MM) (sz' : Nat) (H1 : Heap) (locs1 : List Loc), v.isSome = b → RepH g T' M' sz' H1 → Q (vabsO v) T' M' sz' → (∀ q ∈ locs1, g.2.2.1 ≤ q.base) → W p l e R s m args below meth c H1 locs1 (cells + mc) (slots + ms) Qr (F0 m (pc + 3) lsC (v.toList ++ rest))) : W p l e R s m args below meth c H locs cells slots Qr (F0 m pc lsC st0) := by
  intro T hT X
  obtain ⟨v, st₀, t, T', L, h0, X', hL, e1, e2, ⟨v', T1, M1, sz1, ev, hs1, hR1, hQ1⟩, st⟩ := hr T hT X
  cases ev
  obtain ⟨t2, a1, b1⟩ := kk v T1 M1 sz1 T'.heap (locs ++ L) hs1 (by rw [e1]; exact hR1) hQ1 (fun q hq => (List.mem_append.mp hq).elim (hlocs q) (hL q)) T' rfl X'
  exact ⟨t2, st t2 a1, b1⟩
end
theorem PcOf.blind {g : WG} {as : List MVal} {T : TT} {M : MM} {sz : Nat} : FrameBlind (PcOf g as T M sz) := fun a U gf mk q => ⟨q.1, q.2.1, K0.same (s := U) (U := U.calling gf mk a) rfl q.2.2⟩
section
variable {g : WG} {x : CX} {own : String} {cc : ByteArray} {d : Nat} {pc : Nat} {ls st : List MVal} {T : TT} {M : MM} {sz nc ns : Nat}
def VLk (own : String) (idx : Nat) (μ : MD) : Prop := .methodLink own idx μ.1 ∈ tblG ∧ .instanceMethod μ.1 ∈ tblG ∧ .selects μ.1.cls μ.1 μ.1 ∈ tblG
def SLk (own : String) (idx : Nat) (μ : MD) : Prop := .methodLink own idx μ.1 ∈ tblG ∧ .static μ.1 ∈ tblG
def ILk (own : String) (idx : Nat) (μ : MD) : Prop := .methodLink own idx μ.1 ∈ tblG ∧ .instanceMethod μ.1 ∈ tblG ∧ μ.1.name = "<init>"
theorem good1 {w : Cond} (h : w ∈ tblG) : w ∈ tblG ∧ ((w.onTables && w.keeps) = true ∨ ∃ ty, w = .arrayClass ty) := tblG_good w h
theorem good_ws {μ : MD} (hM : MDok μ) : GoodIn tblG (wsM μ) := fun w hw => (List.mem_cons.mp hw).elim (fun e => by rw [e]; exact good1 hM.2.2.2.1) (fun h => good1 h)
theorem rev_st {As : List MVal} {stC : List Value} {st : List MVal} (h : stC.map vabs = As.reverse ++ st) : ∃ (vs rest : List Value), stC = vs.reverse ++ rest ∧ vs.map vabs = As ∧ rest.map vabs = st ∧ vs.length = As.length := by
  obtain ⟨l1, l2, rfl, h1, h2⟩ := List.map_eq_append_iff.mp h
  refine ⟨l1.reverse, l2, by rw [List.reverse_reverse], ?_, h2, ?_⟩
  · rw [List.map_reverse, h1, List.reverse_reverse]
  · rw [List.length_reverse, ← List.length_map (f := vabs), h1, List.length_reverse]
/-- an instance's method: the answer goes on the stack -/
theorem J_invV0 (h : OKx g x own cc (d + 1)) {idx a ci mc ms nc' ns' : Nat} {μ : MD} {As st0 : List MVal} (hL : VLk own idx μ) (hM : MDok μ) (hd : decode cc pc = .ok (.invokevirtual idx, 3)) (hT : (T a).1 = ci) (hci : ci < 8) (hq : (vwCl[ci]?).map (·.1) = some μ.1.cls) (hlen : As.length = μ.2.2.2.2) (hst : st0 = As.reverse ++ (vR a :: st)) (hw : (st.map vwd).sum ≤ 8) (hnc : nc = mc + nc') (hns : ns = ms + ns')
    (Q : MVal → TT → MM → Nat → Prop) (hm : Ct g d μ (vR a :: As) T M sz mc ms Q) (k : ∀ v T' M' sz', Q v T' M' sz' → (μ.2.2.2.1.isSome = true → Jd g x (pc + 3) ls (v :: st) T' M' sz' nc' ns') ∧ (μ.2.2.2.1.isSome = false → Jd g x (pc + 3) ls st T' M' sz' nc' ns')) : Jd g x pc ls st0 T M sz nc ns := by
  obtain ⟨p, l, e, R, s, m, args, below, meth, c, Qr⟩ := x
  obtain ⟨hx, hb, hown, hts, hK, hfr, hlo⟩ := h
  subst hst
  intro H locs cells slots lsC stC hR hlocs hl hs hc1 hc2
  obtain ⟨vs, rest, rfl, h1, h2, h3⟩ := rev_st hs
  obtain ⟨rest, rfl, h4⟩ := st_R h2
  obtain ⟨fs, q, q1, q5, q6, q7⟩ := hR.obj hT hci
  have hqc : q.1 = μ.1.cls := by rw [q1] at hq; exact Option.some.inj hq
  have hfr' : R.frames = d + 1 := hfr
  have hlo' : R.locals = 40 * (d + 1) := hlo
  have hsum := vwd_sum rest st h4
  have hc1' : cells + nc ≤ R.cells := hc1
  have hc2' : slots + ns ≤ R.slots := hc2
  have cw : CallW R s args own μ.1.cls idx μ.1 μ.2.1 μ.2.2.1 μ.2.2.2.1 (wsM μ) (rmOf d mc ms) mc ms μ.2.2.2.2 := cwV μ.2.2.2.2 hts (fun w hw => by
    unfold wsV at hw
    rcases List.mem_append.mp hw with hw | hw
    · simp only [List.mem_cons, List.not_mem_nil, or_false] at hw
      rcases hw with rfl | rfl | rfl | rfl
      · exact good1 hL.1
      · exact good1 hL.2.1
      · exact good1 hL.2.2
      · exact good1 hM.2.2.2.2
    · exact good_ws hM w hw) rfl rfl rfl ⟨rfl, hM.2.1⟩ ⟨by show d + 1 ≤ _; omega, by show 8 + (μ.2.2.1 + 11) + 40 * d ≤ _; have := hM.2.2.1; omega⟩
  refine run_go (g := g) (b := μ.2.2.2.1.isSome) (Q := Q) (va_runV (As := vs) (rest := rest) (nL := c.maxLocals) (Ts := tblG) ⟨hx, hb, rfl, hown, hts⟩ (hm l) cw ⟨PcOf.blind, by rw [← hqc]; exact va_recv hK.1 (va_one q5) (ci := ci) (q0 := 0) q1 rfl, fun U hU hW => ⟨by simp [h1]; rfl, by rw [hU]; exact hR, hK.warm hW⟩⟩ rfl (h3.trans hlen) hl.2.1 rfl (by show 2 * 0 + _ ≤ 8; omega) hd ⟨by omega, by omega⟩) hlocs (fun v T' M' sz' H1 locs1 hv hR1 hQ1 hlocs1 => ?_)
  cases v with
  | none =>
    exact (k _ _ _ _ hQ1).2 hv.symm H1 locs1 (cells + mc) (slots + ms) lsC _ hR1 hlocs1 hl h4 (by show _ ≤ R.cells; omega) (by show _ ≤ R.slots; omega)
  | some w =>
    exact (k _ _ _ _ hQ1).1 hv.symm H1 locs1 (cells + mc) (slots + ms) lsC _ hR1 hlocs1 hl (by show List.map vabs (w :: rest) = _; rw [List.map_cons, h4]; rfl) (by show _ ≤ R.cells; omega) (by show _ ≤ R.slots; omega)
theorem J_invV (h : OKx g x own cc (d + 1)) {idx a ci mc ms nc' ns' : Nat} {μ : MD} {As st0 : List MVal} (hL : VLk own idx μ) (hM : MDok μ) (hd : decode cc pc = .ok (.invokevirtual idx, 3)) (hT : (T a).1 = ci) (hci : ci < 8) (hq : (vwCl[ci]?).map (·.1) = some μ.1.cls) (hlen : As.length = μ.2.2.2.2) (hst : st0 = As.reverse ++ (vR a :: st)) (hw : (st.map vwd).sum ≤ 8) (hnc : nc = mc + nc') (hns : ns = ms + ns') (hret : μ.2.2.2.1.isSome = true)
    (hm : Ct g d μ (vR a :: As) T M sz mc ms (fun v T' M' sz' => Jd g x (pc + 3) ls (v :: st) T' M' sz' nc' ns')) : Jd g x pc ls st0 T M sz nc ns :=
  J_invV0 h hL hM hd hT hci hq hlen hst hw hnc hns _ hm (fun v T' M' sz' hQ => ⟨fun _ => hQ, fun e => by rw [hret] at e; cases e⟩)
theorem J_invVv (h : OKx g x own cc (d + 1)) {idx a ci mc ms nc' ns' : Nat} {μ : MD} {As st0 : List MVal} (hL : VLk own idx μ) (hM : MDok μ) (hd : decode cc pc = .ok (.invokevirtual idx, 3)) (hT : (T a).1 = ci) (hci : ci < 8) (hq : (vwCl[ci]?).map (·.1) = some μ.1.cls) (hlen : As.length = μ.2.2.2.2) (hst : st0 = As.reverse ++ (vR a :: st)) (hw : (st.map vwd).sum ≤ 8) (hnc : nc = mc + nc') (hns : ns = ms + ns') (hret : μ.2.2.2.1.isSome = false)
    (hm : Ct g d μ (vR a :: As) T M sz mc ms (fun _ T' M' sz' => Jd g x (pc + 3) ls st T' M' sz' nc' ns')) : Jd g x pc ls st0 T M sz nc ns :=
  J_invV0 h hL hM hd hT hci hq hlen hst hw hnc hns _ hm (fun v T' M' sz' hQ => ⟨fun e => (by rw [hret] at e; cases e), fun _ => hQ⟩)
/-- a static method -/
theorem J_invS0 (h : OKx g x own cc (d + 1)) {idx mc ms nc' ns' : Nat} {μ : MD} {As st0 : List MVal} (hL : SLk own idx μ) (hM : MDok μ) (hd : decode cc pc = .ok (.invokestatic idx, 3)) (hlen : As.length = μ.2.2.2.2) (hst : st0 = As.reverse ++ st) (hw : (st.map vwd).sum ≤ 8) (hnc : nc = mc + nc') (hns : ns = ms + ns')
    (Q : MVal → TT → MM → Nat → Prop) (hm : Ct g d μ As T M sz mc ms Q) (k : ∀ v T' M' sz', Q v T' M' sz' → (μ.2.2.2.1.isSome = true → Jd g x (pc + 3) ls (v :: st) T' M' sz' nc' ns') ∧ (μ.2.2.2.1.isSome = false → Jd g x (pc + 3) ls st T' M' sz' nc' ns')) : Jd g x pc ls st0 T M sz nc ns := by
  obtain ⟨p, l, e, R, s, m, args, below, meth, c, Qr⟩ := x
  obtain ⟨hx, hb, hown, hts, hK, hfr, hlo⟩ := h
  subst hst
  intro H locs cells slots lsC stC hR hlocs hl hs hc1 hc2
  obtain ⟨vs, rest, rfl, h1, h4, h3⟩ := rev_st hs
  have hfr' : R.frames = d + 1 := hfr
  have hlo' : R.locals = 40 * (d + 1) := hlo
  have hsum := vwd_sum rest st h4
  have hc1' : cells + nc ≤ R.cells := hc1
  have hc2' : slots + ns ≤ R.slots := hc2
  have cw := va_cwS (R := R) (s := s) (args := args) (own := own) (index := idx) (y := μ.1) (bytes := μ.2.1) (maxL := μ.2.2.1) (ret := μ.2.2.2.1) (ws := wsM μ) (rm := rmOf d mc ms) (mc := mc) (ms := ms) μ.2.2.2.2 hts (fun w hw => by
    unfold va_wsS at hw
    rcases List.mem_append.mp hw with hw | hw
    · simp only [List.mem_cons, List.not_mem_nil, or_false] at hw
      rcases hw with rfl | rfl | rfl
      · exact good1 hL.1
      · exact good1 hL.2
      · exact good1 hM.2.2.2.2
    · exact good_ws hM w hw) rfl rfl rfl hM.2.1 ⟨by show d + 1 ≤ _; omega, by show 8 + (μ.2.2.1 + 11) + 40 * d ≤ _; have := hM.2.2.1; omega⟩
  refine run_go (g := g) (b := μ.2.2.2.1.isSome) (Q := Q) (va_runS (As := vs) (rest := rest) (nL := c.maxLocals) (Ts := tblG) ⟨hx, hb, rfl, hown, hts⟩ (hm l) cw ⟨PcOf.blind, fun U hU hW => ⟨by simpa using h1, by rw [hU]; exact hR, hK.warm hW⟩⟩ rfl (h3.trans hlen) hl.2.1 rfl (by show 2 * 0 + _ ≤ 8; omega) hd ⟨by omega, by omega⟩) hlocs (fun v T' M' sz' H1 locs1 hv hR1 hQ1 hlocs1 => ?_)
  cases v with
  | none =>
    exact (k _ _ _ _ hQ1).2 hv.symm H1 locs1 (cells + mc) (slots + ms) lsC _ hR1 hlocs1 hl h4 (by show _ ≤ R.cells; omega) (by show _ ≤ R.slots; omega)
  | some w =>
    exact (k _ _ _ _ hQ1).1 hv.symm H1 locs1 (cells + mc) (slots + ms) lsC _ hR1 hlocs1 hl (by show List.map vabs (w :: rest) = _; rw [List.map_cons, h4]; rfl) (by show _ ≤ R.cells; omega) (by show _ ≤ R.slots; omega)
theorem J_invS (h : OKx g x own cc (d + 1)) {idx mc ms nc' ns' : Nat} {μ : MD} {As st0 : List MVal} (hL : SLk own idx μ) (hM : MDok μ) (hd : decode cc pc = .ok (.invokestatic idx, 3)) (hlen : As.length = μ.2.2.2.2) (hst : st0 = As.reverse ++ st) (hw : (st.map vwd).sum ≤ 8) (hnc : nc = mc + nc') (hns : ns = ms + ns') (hret : μ.2.2.2.1.isSome = true)
    (hm : Ct g d μ As T M sz mc ms (fun v T' M' sz' => Jd g x (pc + 3) ls (v :: st) T' M' sz' nc' ns')) : Jd g x pc ls st0 T M sz nc ns :=
  J_invS0 h hL hM hd hlen hst hw hnc hns _ hm (fun v T' M' sz' hQ => ⟨fun _ => hQ, fun e => by rw [hret] at e; cases e⟩)
theorem J_invSv (h : OKx g x own cc (d + 1)) {idx mc ms nc' ns' : Nat} {μ : MD} {As st0 : List MVal} (hL : SLk own idx μ) (hM : MDok μ) (hd : decode cc pc = .ok (.invokestatic idx, 3)) (hlen : As.length = μ.2.2.2.2) (hst : st0 = As.reverse ++ st) (hw : (st.map vwd).sum ≤ 8) (hnc : nc = mc + nc') (hns : ns = ms + ns') (hret : μ.2.2.2.1.isSome = false)
    (hm : Ct g d μ As T M sz mc ms (fun _ T' M' sz' => Jd g x (pc + 3) ls st T' M' sz' nc' ns')) : Jd g x pc ls st0 T M sz nc ns :=
  J_invS0 h hL hM hd hlen hst hw hnc hns _ hm (fun v T' M' sz' hQ => ⟨fun e => (by rw [hret] at e; cases e), fun _ => hQ⟩)
end
