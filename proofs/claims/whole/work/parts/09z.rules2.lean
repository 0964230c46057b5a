section
variable {g : WG} {x : CX} {own : String} {cc : ByteArray} {d : Nat} {pc : Nat} {ls st : List MVal} {T : TT} {M : MM} {sz nc ns : Nat}
theorem math_i : Cond.initialized "java/lang/Math" ∈ tblG := inG (List.mem_of_getElem? (i := 14) (by decide +kernel)) rfl
theorem math_min : Cond.static Lib.Math.min.name ∈ tblG ∧ Cond.code Lib.Math.min.name Lib.Math.min.code 2 (some .int) ∈ tblG := ⟨inG (List.mem_of_getElem? (i := 623) (by decide +kernel)) rfl, inG (List.mem_of_getElem? (i := 624) (by decide +kernel)) rfl⟩
theorem lk_X0_62 : Cond.methodLink RX0 62 Lib.Math.min.name ∈ tblG := inG (List.mem_of_getElem? (i := 752) (by decide +kernel)) rfl
theorem lk_X1_63 : Cond.methodLink RX1 63 Lib.Math.min.name ∈ tblG := inG (List.mem_of_getElem? (i := 683) (by decide +kernel)) rfl
theorem lk_X5_85 : Cond.methodLink RX5 85 Lib.Math.min.name ∈ tblG := inG (List.mem_of_getElem? (i := 622) (by decide +kernel)) rfl
theorem J_mmin (h : OKx g x own cc (d + 1)) {idx : Nat} {a b v : Int} (hlk : Cond.methodLink own idx Lib.Math.min.name ∈ tblG) (hd : decode cc pc = .ok (.invokestatic idx, 3)) (hw : (st.map vwd).sum ≤ 8) (hv : (if b < a then b else a) = v)
    (k : Jd g x (pc + 3) ls (vI v :: st) T M sz nc ns) : Jd g x pc ls (vI b :: vI a :: st) T M sz nc ns := by
  obtain ⟨p, l, e, R, s, m, args, below, meth, c, Q⟩ := x
  obtain ⟨hx, hb, hown, hts, hK, hfr, hlo⟩ := h
  intro H locs cells slots lsC stC hR hlocs hl hs hc1 hc2
  obtain ⟨y1, stC, rfl, ey, hs⟩ := st_I hs
  obtain ⟨x1, stC, rfl, ex, hs⟩ := st_I hs
  have hfr' : R.frames = d + 1 := hfr
  have hlo' : R.locals = 40 * (d + 1) := hlo
  have hc1' : cells + nc ≤ R.cells := hc1
  have hc2' : slots + ns ≤ R.slots := hc2
  have hsum := vwd_sum stC st hs
  refine va_mmin hx hb hl.2.1.symm hown (hts _ hlk) (hts _ math_min.1) (hts _ math_i) (hts _ math_min.2) (by omega) (by omega) (by omega) (by omega) hd ?_
  refine k H locs cells slots lsC _ hR hlocs hl ?_ hc1 hc2
  rw [List.map_cons, hs]
  congr 1
  show vI _ = vI _
  rw [← hv, ← ex, ← ey]
  by_cases q : y1 < x1
  · rw [if_pos q, if_pos (Int32.lt_iff_toInt_lt.mp q)]
  · rw [if_neg q, if_neg (fun z => q (Int32.lt_iff_toInt_lt.mpr z))]
theorem math_max : Cond.static Lib.Math.max.name ∈ tblG ∧ Cond.code Lib.Math.max.name Lib.Math.max.code 2 (some .int) ∈ tblG := ⟨inG (List.mem_of_getElem? (i := 716) (by decide +kernel)) rfl, inG (List.mem_of_getElem? (i := 717) (by decide +kernel)) rfl⟩
theorem lk_X6_278 : Cond.methodLink RX6 278 Lib.Math.max.name ∈ tblG := inG (List.mem_of_getElem? (i := 715) (by decide +kernel)) rfl
theorem lk_X5_137 : Cond.methodLink RX5 137 Lib.Math.max.name ∈ tblG := inG (List.mem_of_getElem? (i := 840) (by decide +kernel)) rfl
theorem J_mmax (h : OKx g x own cc (d + 1)) {idx : Nat} {a b v : Int} (hlk : Cond.methodLink own idx Lib.Math.max.name ∈ tblG) (hd : decode cc pc = .ok (.invokestatic idx, 3)) (hw : (st.map vwd).sum ≤ 8) (hv : (if a < b then b else a) = v)
    (k : Jd g x (pc + 3) ls (vI v :: st) T M sz nc ns) : Jd g x pc ls (vI b :: vI a :: st) T M sz nc ns := by
  obtain ⟨p, l, e, R, s, m, args, below, meth, c, Q⟩ := x
  obtain ⟨hx, hb, hown, hts, hK, hfr, hlo⟩ := h
  intro H locs cells slots lsC stC hR hlocs hl hs hc1 hc2
  obtain ⟨y1, stC, rfl, ey, hs⟩ := st_I hs
  obtain ⟨x1, stC, rfl, ex, hs⟩ := st_I hs
  have hfr' : R.frames = d + 1 := hfr
  have hlo' : R.locals = 40 * (d + 1) := hlo
  have hc1' : cells + nc ≤ R.cells := hc1
  have hc2' : slots + ns ≤ R.slots := hc2
  have hsum := vwd_sum stC st hs
  refine va_mmax hx hb hl.2.1.symm hown (hts _ hlk) (hts _ math_max.1) (hts _ math_i) (hts _ math_max.2) (by omega) (by omega) (by omega) (by omega) hd ?_
  refine k H locs cells slots lsC _ hR hlocs hl ?_ hc1 hc2
  rw [List.map_cons, hs]
  congr 1
  show vI _ = vI _
  rw [← hv, ← ex, ← ey]
  by_cases q : x1 < y1
  · rw [if_pos q, if_pos (Int32.lt_iff_toInt_lt.mp q)]
  · rw [if_neg q, if_neg (fun z => q (Int32.lt_iff_toInt_lt.mpr z))]
def cpM (M : MM) (a0 a sp dp n : Nat) : MM := fun b j => if b = a ∧ dp ≤ j ∧ j < dp + n then M a0 (sp + (j - dp)) else M b j
theorem sys_ac : Cond.native arraycopyName ∈ tblG ∧ Cond.static arraycopyName ∈ tblG ∧ Cond.initialized "java/lang/System" ∈ tblG := ⟨inG (List.mem_of_getElem? (i := 298) (by decide +kernel)) rfl, inG (List.mem_of_getElem? (i := 297) (by decide +kernel)) rfl, inG (List.mem_of_getElem? (i := 9) (by decide +kernel)) rfl⟩
theorem lk_X6_102 : Cond.methodLink RX6 102 arraycopyName ∈ tblG := inG (List.mem_of_getElem? (i := 296) (by decide +kernel)) rfl
theorem lk_X1_28 : Cond.methodLink RX1 28 arraycopyName ∈ tblG := inG (List.mem_of_getElem? (i := 671) (by decide +kernel)) rfl
theorem lk_X5_51 : Cond.methodLink RX5 51 arraycopyName ∈ tblG := inG (List.mem_of_getElem? (i := 389) (by decide +kernel)) rfl
theorem J_copyI (h : OKx g x own cc (d + 1)) {idx a0 a : Nat} {isp idp im : Int} (sp dp n : Nat) (hlk : Cond.methodLink own idx arraycopyName ∈ tblG) (hd : decode cc pc = .ok (.invokestatic idx, 3)) (hT0 : (T a0).1 = 10) (hT1 : (T a).1 = 10) (e1 : isp = (sp : Int)) (e2 : idp = (dp : Int)) (e3 : im = (n : Int)) (h4 : sp + n ≤ (T a0).2.1) (h5 : dp + n ≤ (T a).2.1) (hw : (st.map vwd).sum ≤ 8)
    (k : Jd g x (pc + 3) ls st T (cpM M a0 a sp dp n) sz nc ns) : Jd g x pc ls (vI im :: vI idp :: vR a :: vI isp :: vR a0 :: st) T M sz nc ns := by
  obtain ⟨p, l, e, R, s, m, args, below, meth, c, Q⟩ := x
  obtain ⟨hx, hb, hown, hts, hK, hfr, hlo⟩ := h
  intro H locs cells slots lsC stC hR hlocs hl hs hc1 hc2
  obtain ⟨zn, stC, rfl, en, hs⟩ := st_I hs
  obtain ⟨zd, stC, rfl, ed, hs⟩ := st_I hs
  obtain ⟨stC, rfl, hs9⟩ := st_R hs; replace hs := hs9; clear hs9
  obtain ⟨zs, stC, rfl, es, hs⟩ := st_I hs
  obtain ⟨stC, rfl, hs9⟩ := st_R hs; replace hs := hs9; clear hs9
  have hfr' : R.frames = d + 1 := hfr
  have hlo' : R.locals = 40 * (d + 1) := hlo
  have hsum := vwd_sum stC st hs
  have hnf : nativeFrameWords "java/lang/System" "arraycopy" 5 ≤ 20 := by decide
  obtain ⟨cA, f, hf1, hf2, hf3⟩ := hR.ints hT0 (Or.inl rfl)
  obtain ⟨cB, f2, hg1, hg2, hg3⟩ := hR.ints hT1 (Or.inl rfl)
  have nz : ∀ (z : Int32) (w : Nat), z.toInt = (w : Int) → ¬ z < 0 ∧ z.toNatClampNeg = w := fun z w hz => by
    refine ⟨fun q => ?_, ?_⟩
    · have := Int32.lt_iff_toInt_lt.mp q
      rw [hz] at this
      have h9 : (0 : Int32).toInt = 0 := rfl
      omega
    · show z.toInt.toNat = w
      rw [hz]; rfl
  obtain ⟨n1, n2⟩ := nz zn n (en.trans e3)
  obtain ⟨d1, d2⟩ := nz zd dp (ed.trans e2)
  obtain ⟨s1, s2⟩ := nz zs sp (es.trans e1)
  intro U hU X
  have hcA : cA = g.2.1 0 := hf2.elim (fun q => q.2) (fun q => absurd q.1 (by decide))
  have hcB : cB = g.2.1 0 := hg2.elim (fun q => q.2) (fun q => absurd q.1 (by decide))
  subst hcA
  subst hcB
  obtain ⟨-, k0, hk0, cm0, hkk0⟩ := (tys_at hK.1 (t0 := 0) (cA := g.2.1 0) (ty := .int) rfl).1 (T a0).2.1 (fun j => .int (f j))
  obtain ⟨-, k1, hk1, cm1, hkk1⟩ := (tys_at hK.1 (t0 := 0) (cA := g.2.1 0) (ty := .int) rfl).1 (T a).2.1 (fun j => .int (f2 j))
  have hc0 : H[a0]? = some (vp_cell (g.2.1 0) ((T a0).2.1, .inl (f))) := hf1
  have hc1c : H[a]? = some (vp_cell (g.2.1 0) ((T a).2.1, .inl (f2))) := hg1
  obtain ⟨vm', X', step⟩ := X.arraycopy hx hown (hts _ hlk) (hts _ sys_ac.1) (hts _ sys_ac.2.1) (hts _ sys_ac.2.2) (src := a0) (dst := a) (cs := vp_cell (g.2.1 0) ((T a0).2.1, .inl (f))) (cd := vp_cell (g.2.1 0) ((T a).2.1, .inl (f2))) (srcPos := zs) (destPos := zd) (n := zn) (by rw [hU]; exact hc0) (by rw [hU]; exact hc1c)
    (fun _ h => by cases h) (fun _ h => by cases h) (fun h => by cases h) (fun h => by cases h) hk0 hk1 hkk0 hkk1 (by simp [refKind]) s1 d1 n1
    (by rw [es, e1, en, e3]; show ¬ _ > ((arrV _ _ (fun j => .int (f j))).slots.size : Int); rw [arrV_size]; omega)
    (by rw [ed, e2, en, e3]; show ¬ _ > ((arrV _ _ (fun j => .int (f2 j))).slots.size : Int); rw [arrV_size]; omega)
    (fun vm₁ _ i hi => by
      have e9 : (vp_cell (g.2.1 0) ((T a0).2.1, .inl (f))).slots.getD (zs.toNatClampNeg + i) .null = .int (f (zs.toNatClampNeg + i)) := by
        show (arrV _ _ (fun j => .int (f j))).slots.getD _ _ = _
        rw [Array.getD_eq_getD_getElem?, arrV_read _ _ (by omega)]
        rfl
      refine ⟨?_, ?_⟩
      · rw [e9]; rfl
      · rw [e9]; exact trivial)
    (g := F0 m pc lsC (.int zn :: .int zd :: .ref a :: .int zs :: .ref a0 :: stC)) rfl hl.2.1 (rest := stC) rfl (by rw [hb]; exact hd) (by omega) (by show 2 * 0 + _ + (nativeFrameWords "java/lang/System" "arraycopy" 5 + 11) ≤ R.locals; omega)
  have e8 : copied (vp_cell (g.2.1 0) ((T a0).2.1, .inl (f))) (vp_cell (g.2.1 0) ((T a).2.1, .inl (f2))) zs zd zn = vp_cell (g.2.1 0) ((T a).2.1, .inl (va_cpy f f2 sp dp n)) := by
    have := va_copied (fun z => .int z) (g.2.1 0) (g.2.1 0) (n0 := (T a0).2.1) (n1 := (T a).2.1) (sp := sp) (dp := dp) (n := n) f f2 h4
    rw [← s2, ← d2, ← n2] at this ⊢
    exact this
  rw [e8] at X' step
  have hlt : a < H.size := (Array.getElem?_eq_some_iff.mp hc1c).1
  have hheap : ((U.setVm vm').setCell a (vp_cell (g.2.1 0) ((T a).2.1, .inl (va_cpy f f2 sp dp n)))).heap = H.setIfInBounds a (vp_cell (g.2.1 0) ((T a).2.1, .inl (va_cpy f f2 sp dp n))) := by rw [← hU]; rfl
  have hR2 : RepH g T (cpM M a0 a sp dp n) sz (H.setIfInBounds a (vp_cell (g.2.1 0) ((T a).2.1, .inl (va_cpy f f2 sp dp n)))) := by
    refine hR.put (a := a) (by omega) (by simp) (fun q hq => by simp [Array.getElem?_setIfInBounds, Ne.symm hq]) (fun b _ => rfl) (fun b hb => by funext w; simp [cpM, hb]) (e := .inl (g.2.1 0, (T a).2.1, .inl (va_cpy f f2 sp dp n))) (by show (H.setIfInBounds a _)[a]? = some _; simp [Array.getElem?_setIfInBounds, hlt]) ⟨Or.inl ⟨hT1, rfl⟩, rfl, fun w hw2 => ?_⟩
    by_cases q : dp ≤ w ∧ w < dp + n
    · simp only [va_cpy, cpM, q, and_self, if_true, true_and]
      exact hf3 _ (by omega)
    · simp only [va_cpy, cpM, q, if_false, and_false]
      exact hg3 w hw2
  obtain ⟨t, a1, b1⟩ := k _ _ cells slots lsC stC hR2 (by
    intro z hz
    rcases List.mem_append.mp hz with hz | hz
    · exact hlocs z hz
    · obtain ⟨w, -, hw2⟩ := List.mem_map.mp hz
      rw [← hw2]
      exact (hR.2.2.2 a (by omega)).1) hl hs hc1 hc2 _ hheap X'
  exact ⟨t, step t a1, b1⟩
theorem J_copyL (h : OKx g x own cc (d + 1)) {idx a0 a : Nat} {isp idp im : Int} (sp dp n : Nat) (hlk : Cond.methodLink own idx arraycopyName ∈ tblG) (hd : decode cc pc = .ok (.invokestatic idx, 3)) (hT0 : (T a0).1 = 11) (hT1 : (T a).1 = 11) (e1 : isp = (sp : Int)) (e2 : idp = (dp : Int)) (e3 : im = (n : Int)) (h4 : sp + n ≤ (T a0).2.1) (h5 : dp + n ≤ (T a).2.1) (hw : (st.map vwd).sum ≤ 8)
    (k : Jd g x (pc + 3) ls st T (cpM M a0 a sp dp n) sz nc ns) : Jd g x pc ls (vI im :: vI idp :: vR a :: vI isp :: vR a0 :: st) T M sz nc ns := by
  obtain ⟨p, l, e, R, s, m, args, below, meth, c, Q⟩ := x
  obtain ⟨hx, hb, hown, hts, hK, hfr, hlo⟩ := h
  intro H locs cells slots lsC stC hR hlocs hl hs hc1 hc2
  obtain ⟨zn, stC, rfl, en, hs⟩ := st_I hs
  obtain ⟨zd, stC, rfl, ed, hs⟩ := st_I hs
  obtain ⟨stC, rfl, hs9⟩ := st_R hs; replace hs := hs9; clear hs9
  obtain ⟨zs, stC, rfl, es, hs⟩ := st_I hs
  obtain ⟨stC, rfl, hs9⟩ := st_R hs; replace hs := hs9; clear hs9
  have hfr' : R.frames = d + 1 := hfr
  have hlo' : R.locals = 40 * (d + 1) := hlo
  have hsum := vwd_sum stC st hs
  have hnf : nativeFrameWords "java/lang/System" "arraycopy" 5 ≤ 20 := by decide
  obtain ⟨f, hf1, hf3⟩ := hR.longs hT0
  obtain ⟨f2, hg1, hg3⟩ := hR.longs hT1
  have nz : ∀ (z : Int32) (w : Nat), z.toInt = (w : Int) → ¬ z < 0 ∧ z.toNatClampNeg = w := fun z w hz => by
    refine ⟨fun q => ?_, ?_⟩
    · have := Int32.lt_iff_toInt_lt.mp q
      rw [hz] at this
      have h9 : (0 : Int32).toInt = 0 := rfl
      omega
    · show z.toInt.toNat = w
      rw [hz]; rfl
  obtain ⟨n1, n2⟩ := nz zn n (en.trans e3)
  obtain ⟨d1, d2⟩ := nz zd dp (ed.trans e2)
  obtain ⟨s1, s2⟩ := nz zs sp (es.trans e1)
  intro U hU X
  obtain ⟨-, k0, hk0, cm0, hkk0⟩ := (tys_at hK.1 (t0 := 1) (cA := g.2.1 1) (ty := .long) rfl).1 (T a0).2.1 (fun j => .long (f j))
  obtain ⟨-, k1, hk1, cm1, hkk1⟩ := (tys_at hK.1 (t0 := 1) (cA := g.2.1 1) (ty := .long) rfl).1 (T a).2.1 (fun j => .long (f2 j))
  have hc0 : H[a0]? = some (vp_cell (g.2.1 1) ((T a0).2.1, .inr (.inl (f)))) := hf1
  have hc1c : H[a]? = some (vp_cell (g.2.1 1) ((T a).2.1, .inr (.inl (f2)))) := hg1
  obtain ⟨vm', X', step⟩ := X.arraycopy hx hown (hts _ hlk) (hts _ sys_ac.1) (hts _ sys_ac.2.1) (hts _ sys_ac.2.2) (src := a0) (dst := a) (cs := vp_cell (g.2.1 1) ((T a0).2.1, .inr (.inl (f)))) (cd := vp_cell (g.2.1 1) ((T a).2.1, .inr (.inl (f2)))) (srcPos := zs) (destPos := zd) (n := zn) (by rw [hU]; exact hc0) (by rw [hU]; exact hc1c)
    (fun _ h => by cases h) (fun _ h => by cases h) (fun h => by cases h) (fun h => by cases h) hk0 hk1 hkk0 hkk1 (by simp [refKind]) s1 d1 n1
    (by rw [es, e1, en, e3]; show ¬ _ > ((arrV _ _ (fun j => .long (f j))).slots.size : Int); rw [arrV_size]; omega)
    (by rw [ed, e2, en, e3]; show ¬ _ > ((arrV _ _ (fun j => .long (f2 j))).slots.size : Int); rw [arrV_size]; omega)
    (fun vm₁ _ i hi => by
      have e9 : (vp_cell (g.2.1 1) ((T a0).2.1, .inr (.inl (f)))).slots.getD (zs.toNatClampNeg + i) .null = .long (f (zs.toNatClampNeg + i)) := by
        show (arrV _ _ (fun j => .long (f j))).slots.getD _ _ = _
        rw [Array.getD_eq_getD_getElem?, arrV_read _ _ (by omega)]
        rfl
      refine ⟨?_, ?_⟩
      · rw [e9]; rfl
      · rw [e9]; exact trivial)
    (g := F0 m pc lsC (.int zn :: .int zd :: .ref a :: .int zs :: .ref a0 :: stC)) rfl hl.2.1 (rest := stC) rfl (by rw [hb]; exact hd) (by omega) (by show 2 * 0 + _ + (nativeFrameWords "java/lang/System" "arraycopy" 5 + 11) ≤ R.locals; omega)
  have e8 : copied (vp_cell (g.2.1 1) ((T a0).2.1, .inr (.inl (f)))) (vp_cell (g.2.1 1) ((T a).2.1, .inr (.inl (f2)))) zs zd zn = vp_cell (g.2.1 1) ((T a).2.1, .inr (.inl (va_cpy f f2 sp dp n))) := by
    have := va_copied (fun z => .long z) (g.2.1 1) (g.2.1 1) (n0 := (T a0).2.1) (n1 := (T a).2.1) (sp := sp) (dp := dp) (n := n) f f2 h4
    rw [← s2, ← d2, ← n2] at this ⊢
    exact this
  rw [e8] at X' step
  have hlt : a < H.size := (Array.getElem?_eq_some_iff.mp hc1c).1
  have hheap : ((U.setVm vm').setCell a (vp_cell (g.2.1 1) ((T a).2.1, .inr (.inl (va_cpy f f2 sp dp n))))).heap = H.setIfInBounds a (vp_cell (g.2.1 1) ((T a).2.1, .inr (.inl (va_cpy f f2 sp dp n)))) := by rw [← hU]; rfl
  have hR2 : RepH g T (cpM M a0 a sp dp n) sz (H.setIfInBounds a (vp_cell (g.2.1 1) ((T a).2.1, .inr (.inl (va_cpy f f2 sp dp n))))) := by
    refine hR.put (a := a) (by omega) (by simp) (fun q hq => by simp [Array.getElem?_setIfInBounds, Ne.symm hq]) (fun b _ => rfl) (fun b hb => by funext w; simp [cpM, hb]) (e := .inl (g.2.1 1, (T a).2.1, .inr (.inl (va_cpy f f2 sp dp n)))) (by show (H.setIfInBounds a _)[a]? = some _; simp [Array.getElem?_setIfInBounds, hlt]) ⟨⟨hT1, rfl⟩, rfl, fun w hw2 => ?_⟩
    by_cases q : dp ≤ w ∧ w < dp + n
    · simp only [va_cpy, cpM, q, and_self, if_true, true_and]
      exact hf3 _ (by omega)
    · simp only [va_cpy, cpM, q, if_false, and_false]
      exact hg3 w hw2
  obtain ⟨t, a1, b1⟩ := k _ _ cells slots lsC stC hR2 (by
    intro z hz
    rcases List.mem_append.mp hz with hz | hz
    · exact hlocs z hz
    · obtain ⟨w, -, hw2⟩ := List.mem_map.mp hz
      rw [← hw2]
      exact (hR.2.2.2 a (by omega)).1) hl hs hc1 hc2 _ hheap X'
  exact ⟨t, step t a1, b1⟩
end
