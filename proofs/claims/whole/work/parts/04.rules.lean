section
variable {g : WG} {x : CX} {own : String} {cc : ByteArray} {d : Nat} {pc : Nat} {ls st : List MVal} {T : TT} {M : MM} {sz nc ns : Nat}
def w32 (x : Int) : Int := Int.bmod x 4294967296
theorem w32_id {x : Int} (h1 : -2147483648 ≤ x) (h2 : x < 2147483648) : w32 x = x := by
  unfold w32
  rw [Int.bmod_def]
  omega
def jshl (a b : Int) : Int := (Int32.ofInt a <<< (Int32.ofInt b &&& 31)).toInt
def jshr (a b : Int) : Int := (Int32.ofInt a >>> (Int32.ofInt b &&& 31)).toInt
def jushr (a b : Int) : Int := ((Int32.ofInt a).toUInt32 >>> ((Int32.ofInt b).toUInt32 &&& Int32.toUInt32 31)).toInt32.toInt
def jand (a b : Int) : Int := (Int32.ofInt a &&& Int32.ofInt b).toInt
def jor (a b : Int) : Int := (Int32.ofInt a ||| Int32.ofInt b).toInt
def jlshl (a b : Int) : Int := (Int64.ofInt a <<< ((Int32.ofInt b).toInt64 &&& 63)).toInt
def jlor (a b : Int) : Int := (Int64.ofInt a ||| Int64.ofInt b).toInt
def jland (a b : Int) : Int := (Int64.ofInt a &&& Int64.ofInt b).toInt
def jcmp (a b : Int) : Int := if b < a then 1 else if a = b then 0 else -1
theorem lg_cmp_toInt (x y : Int64) : (lg_cmp x y).toInt = jcmp x.toInt y.toInt := by
  unfold lg_cmp jcmp
  by_cases h1 : y < x
  · have h2 := Int64.lt_iff_toInt_lt.mp h1
    simp only [gt_iff_lt, h1, h2, if_true]
    rfl
  · have h2 : ¬ y.toInt < x.toInt := fun q => h1 (Int64.lt_iff_toInt_lt.mpr q)
    by_cases h3 : x = y
    · subst h3
      simp only [gt_iff_lt, h1, h2, if_false, if_true]
      rfl
    · have h4 : ¬ x.toInt = y.toInt := fun q => h3 (Int64.toInt_inj.mp q)
      simp only [gt_iff_lt, h1, h2, h3, h4, if_false]
      rfl
theorem lrem_toInt (a m : Int64) : (a - a / m * m).toInt = a.toInt.tmod m.toInt := by
  have h1 := Int64.le_toInt (a % m)
  have h2 := Int64.toInt_lt (a % m)
  rw [Int64.toInt_mod] at h1 h2
  rw [Int64.toInt_sub, Int64.toInt_mul, Int64.toInt_div, Int.bmod_mul_bmod, Int.sub_bmod_bmod, Int.mul_comm (a.toInt.tdiv m.toInt), ← Int.tmod_def]
  exact Int.bmod_eq_of_le_mul_two (by omega) (by omega)
theorem J_iconst (h : OKx g x own cc d) {n v : Int} (hd : decode cc pc = .ok (.iconst n, 1)) (hv : (Int32.ofInt n).toInt = v)
    (k : Jd g x (pc + 1) ls (vI v :: st) T M sz nc ns) : Jd g x pc ls st T M sz nc ns := by
  obtain ⟨p, l, e, R, s, m, args, below, meth, c, Q⟩ := x
  have hx : p.tables.exec = Jvm.exec := h.1
  have hb : c.code = cc := h.2.1
  have hown : s.vm.findClass own = some m.cls := h.2.2.1
  have hts : ∀ w ∈ tblG, w.before args s = true := h.2.2.2.1
  intro H locs cells slots lsC stC hR hlocs hl hs hc1 hc2
  refine lv_iconst hx hb hd rfl ?_
  exact k H locs cells slots lsC _ hR hlocs hl (by rw [List.map_cons, hs, ← hv]; rfl) hc1 hc2
theorem J_bipush (h : OKx g x own cc d) {n v : Int} (hd : decode cc pc = .ok (.bipush n, 2)) (hv : (Int8.ofInt n).toInt32.toInt = v)
    (k : Jd g x (pc + 2) ls (vI v :: st) T M sz nc ns) : Jd g x pc ls st T M sz nc ns := by
  obtain ⟨p, l, e, R, s, m, args, below, meth, c, Q⟩ := x
  have hx : p.tables.exec = Jvm.exec := h.1
  have hb : c.code = cc := h.2.1
  have hown : s.vm.findClass own = some m.cls := h.2.2.1
  have hts : ∀ w ∈ tblG, w.before args s = true := h.2.2.2.1
  intro H locs cells slots lsC stC hR hlocs hl hs hc1 hc2
  refine lv_bipush hx hb hd rfl ?_
  exact k H locs cells slots lsC _ hR hlocs hl (by rw [List.map_cons, hs, ← hv]; rfl) hc1 hc2
theorem J_sipush (h : OKx g x own cc d) {n v : Int} (hd : decode cc pc = .ok (.sipush n, 3)) (hv : (Int16.ofInt n).toInt32.toInt = v)
    (k : Jd g x (pc + 3) ls (vI v :: st) T M sz nc ns) : Jd g x pc ls st T M sz nc ns := by
  obtain ⟨p, l, e, R, s, m, args, below, meth, c, Q⟩ := x
  have hx : p.tables.exec = Jvm.exec := h.1
  have hb : c.code = cc := h.2.1
  have hown : s.vm.findClass own = some m.cls := h.2.2.1
  have hts : ∀ w ∈ tblG, w.before args s = true := h.2.2.2.1
  intro H locs cells slots lsC stC hR hlocs hl hs hc1 hc2
  refine lv_sipush hx hb hd rfl ?_
  exact k H locs cells slots lsC _ hR hlocs hl (by rw [List.map_cons, hs, ← hv]; rfl) hc1 hc2
theorem J_lconst (h : OKx g x own cc d) {n : Fin 2} {v : Int} (hd : decode cc pc = .ok (.lconst n, 1)) (hv : (Int64.ofNat (n : Nat)).toInt = v)
    (k : Jd g x (pc + 1) ls (vL v :: st) T M sz nc ns) : Jd g x pc ls st T M sz nc ns := by
  obtain ⟨p, l, e, R, s, m, args, below, meth, c, Q⟩ := x
  have hx : p.tables.exec = Jvm.exec := h.1
  have hb : c.code = cc := h.2.1
  have hown : s.vm.findClass own = some m.cls := h.2.2.1
  have hts : ∀ w ∈ tblG, w.before args s = true := h.2.2.2.1
  intro H locs cells slots lsC stC hR hlocs hl hs hc1 hc2
  refine lv_lconst hx hb hd rfl ?_
  exact k H locs cells slots lsC _ hR hlocs hl (by rw [List.map_cons, hs, ← hv]; rfl) hc1 hc2
theorem J_ldc (h : OKx g x own cc d) {i : Nat} {c0 : Int32} {v : Int} (hw : Cond.constant own i c0 ∈ tblG) (hd : decode cc pc = .ok (.ldc i, 2)) (hv : c0.toInt = v)
    (k : Jd g x (pc + 2) ls (vI v :: st) T M sz nc ns) : Jd g x pc ls st T M sz nc ns := by
  obtain ⟨p, l, e, R, s, m, args, below, meth, c, Q⟩ := x
  have hx : p.tables.exec = Jvm.exec := h.1
  have hb : c.code = cc := h.2.1
  have hown : s.vm.findClass own = some m.cls := h.2.2.1
  have hts : ∀ w ∈ tblG, w.before args s = true := h.2.2.2.1
  intro H locs cells slots lsC stC hR hlocs hl hs hc1 hc2
  refine lv_ldc hx hb hown (hts _ hw) hd ?_
  exact k H locs cells slots lsC _ hR hlocs hl (by rw [List.map_cons, hs, ← hv]; rfl) hc1 hc2
theorem J_ldcw (h : OKx g x own cc d) {i : Nat} {c0 : Int32} {v : Int} (hw : Cond.constant own i c0 ∈ tblG) (hd : decode cc pc = .ok (.ldc_w i, 3)) (hv : c0.toInt = v)
    (k : Jd g x (pc + 3) ls (vI v :: st) T M sz nc ns) : Jd g x pc ls st T M sz nc ns := by
  obtain ⟨p, l, e, R, s, m, args, below, meth, c, Q⟩ := x
  have hx : p.tables.exec = Jvm.exec := h.1
  have hb : c.code = cc := h.2.1
  have hown : s.vm.findClass own = some m.cls := h.2.2.1
  have hts : ∀ w ∈ tblG, w.before args s = true := h.2.2.2.1
  intro H locs cells slots lsC stC hR hlocs hl hs hc1 hc2
  refine lv_ldcw hx hb hown (hts _ hw) hd ?_
  exact k H locs cells slots lsC _ hR hlocs hl (by rw [List.map_cons, hs, ← hv]; rfl) hc1 hc2
theorem J_ldc2 (h : OKx g x own cc d) {i : Nat} {c0 : Int64} {v : Int} (hw : Cond.constantLong own i c0 ∈ tblG) (hd : decode cc pc = .ok (.ldc2_w i, 3)) (hv : c0.toInt = v)
    (k : Jd g x (pc + 3) ls (vL v :: st) T M sz nc ns) : Jd g x pc ls st T M sz nc ns := by
  obtain ⟨p, l, e, R, s, m, args, below, meth, c, Q⟩ := x
  have hx : p.tables.exec = Jvm.exec := h.1
  have hb : c.code = cc := h.2.1
  have hown : s.vm.findClass own = some m.cls := h.2.2.1
  have hts : ∀ w ∈ tblG, w.before args s = true := h.2.2.2.1
  intro H locs cells slots lsC stC hR hlocs hl hs hc1 hc2
  refine lv_ldc2 hx hb hown (hts _ hw) hd ?_
  exact k H locs cells slots lsC _ hR hlocs hl (by rw [List.map_cons, hs, ← hv]; rfl) hc1 hc2
theorem J_iload_n (h : OKx g x own cc d) {j : Fin 4} {i : Nat} {a : Int} (hd : decode cc pc = .ok (.iload_n j, 1)) (hj : (j : Nat) = i) (hi : ls[i]? = some (vI a))
    (k : Jd g x (pc + 1) ls (vI a :: st) T M sz nc ns) : Jd g x pc ls st T M sz nc ns := by
  obtain ⟨p, l, e, R, s, m, args, below, meth, c, Q⟩ := x
  have hx : p.tables.exec = Jvm.exec := h.1
  have hb : c.code = cc := h.2.1
  have hown : s.vm.findClass own = some m.cls := h.2.2.1
  have hts : ∀ w ∈ tblG, w.before args s = true := h.2.2.2.1
  intro H locs cells slots lsC stC hR hlocs hl hs hc1 hc2
  obtain ⟨z, hz, ez⟩ := hl.I hi
  refine lv_iload_n hx hb hd hj hz ?_
  exact k H locs cells slots lsC _ hR hlocs hl (by rw [List.map_cons, hs, ← ez]; rfl) hc1 hc2
theorem J_iload (h : OKx g x own cc d) {i : Nat} {a : Int} (hd : decode cc pc = .ok (.iload i, 2)) (hi : ls[i]? = some (vI a))
    (k : Jd g x (pc + 2) ls (vI a :: st) T M sz nc ns) : Jd g x pc ls st T M sz nc ns := by
  obtain ⟨p, l, e, R, s, m, args, below, meth, c, Q⟩ := x
  have hx : p.tables.exec = Jvm.exec := h.1
  have hb : c.code = cc := h.2.1
  have hown : s.vm.findClass own = some m.cls := h.2.2.1
  have hts : ∀ w ∈ tblG, w.before args s = true := h.2.2.2.1
  intro H locs cells slots lsC stC hR hlocs hl hs hc1 hc2
  obtain ⟨z, hz, ez⟩ := hl.I hi
  refine lv_iload hx hb hd hz ?_
  exact k H locs cells slots lsC _ hR hlocs hl (by rw [List.map_cons, hs, ← ez]; rfl) hc1 hc2
theorem J_lload_n (h : OKx g x own cc d) {j : Fin 4} {i : Nat} {a : Int} (hd : decode cc pc = .ok (.lload_n j, 1)) (hj : (j : Nat) = i) (hi : ls[i]? = some (vL a))
    (k : Jd g x (pc + 1) ls (vL a :: st) T M sz nc ns) : Jd g x pc ls st T M sz nc ns := by
  obtain ⟨p, l, e, R, s, m, args, below, meth, c, Q⟩ := x
  have hx : p.tables.exec = Jvm.exec := h.1
  have hb : c.code = cc := h.2.1
  have hown : s.vm.findClass own = some m.cls := h.2.2.1
  have hts : ∀ w ∈ tblG, w.before args s = true := h.2.2.2.1
  intro H locs cells slots lsC stC hR hlocs hl hs hc1 hc2
  obtain ⟨z, hz, ez⟩ := hl.L hi
  refine lv_lload_n hx hb hd hj hz ?_
  exact k H locs cells slots lsC _ hR hlocs hl (by rw [List.map_cons, hs, ← ez]; rfl) hc1 hc2
theorem J_lload (h : OKx g x own cc d) {i : Nat} {a : Int} (hd : decode cc pc = .ok (.lload i, 2)) (hi : ls[i]? = some (vL a))
    (k : Jd g x (pc + 2) ls (vL a :: st) T M sz nc ns) : Jd g x pc ls st T M sz nc ns := by
  obtain ⟨p, l, e, R, s, m, args, below, meth, c, Q⟩ := x
  have hx : p.tables.exec = Jvm.exec := h.1
  have hb : c.code = cc := h.2.1
  have hown : s.vm.findClass own = some m.cls := h.2.2.1
  have hts : ∀ w ∈ tblG, w.before args s = true := h.2.2.2.1
  intro H locs cells slots lsC stC hR hlocs hl hs hc1 hc2
  obtain ⟨z, hz, ez⟩ := hl.L hi
  refine lv_lload hx hb hd hz ?_
  exact k H locs cells slots lsC _ hR hlocs hl (by rw [List.map_cons, hs, ← ez]; rfl) hc1 hc2
theorem J_aload_n (h : OKx g x own cc d) {j : Fin 4} {i : Nat} {a : Nat} (hd : decode cc pc = .ok (.aload_n j, 1)) (hj : (j : Nat) = i) (hi : ls[i]? = some (vR a))
    (k : Jd g x (pc + 1) ls (vR a :: st) T M sz nc ns) : Jd g x pc ls st T M sz nc ns := by
  obtain ⟨p, l, e, R, s, m, args, below, meth, c, Q⟩ := x
  have hx : p.tables.exec = Jvm.exec := h.1
  have hb : c.code = cc := h.2.1
  have hown : s.vm.findClass own = some m.cls := h.2.2.1
  have hts : ∀ w ∈ tblG, w.before args s = true := h.2.2.2.1
  intro H locs cells slots lsC stC hR hlocs hl hs hc1 hc2
  refine lv_aload_n hx hb hd hj (hl.R hi) ?_
  exact k H locs cells slots lsC _ hR hlocs hl (by rw [List.map_cons, hs]; rfl) hc1 hc2
theorem J_aload (h : OKx g x own cc d) {i : Nat} {a : Nat} (hd : decode cc pc = .ok (.aload i, 2)) (hi : ls[i]? = some (vR a))
    (k : Jd g x (pc + 2) ls (vR a :: st) T M sz nc ns) : Jd g x pc ls st T M sz nc ns := by
  obtain ⟨p, l, e, R, s, m, args, below, meth, c, Q⟩ := x
  have hx : p.tables.exec = Jvm.exec := h.1
  have hb : c.code = cc := h.2.1
  have hown : s.vm.findClass own = some m.cls := h.2.2.1
  have hts : ∀ w ∈ tblG, w.before args s = true := h.2.2.2.1
  intro H locs cells slots lsC stC hR hlocs hl hs hc1 hc2
  refine lv_aload hx hb hd (hl.R hi) ?_
  exact k H locs cells slots lsC _ hR hlocs hl (by rw [List.map_cons, hs]; rfl) hc1 hc2
theorem J_istore_n (h : OKx g x own cc d) {j : Fin 4} {i : Nat} {a : Int} {lsn : List MVal} (hd : decode cc pc = .ok (.istore_n j, 1)) (hj : (j : Nat) = i) (hi : i < ls.length) (hno : noL ls i = true) (hls : ls.set i (vI a) = lsn)
    (k : Jd g x (pc + 1) lsn st T M sz nc ns) : Jd g x pc ls (vI a :: st) T M sz nc ns := by
  obtain ⟨p, l, e, R, s, m, args, below, meth, c, Q⟩ := x
  have hx : p.tables.exec = Jvm.exec := h.1
  have hb : c.code = cc := h.2.1
  have hown : s.vm.findClass own = some m.cls := h.2.2.1
  have hts : ∀ w ∈ tblG, w.before args s = true := h.2.2.2.1
  intro H locs cells slots lsC stC hR hlocs hl hs hc1 hc2
  obtain ⟨z, stC, rfl, ez, hs⟩ := st_I hs
  refine lv_istore_n hx hb hd hj (lvOf_has hl) (by rw [← hl.2.1, hl.1]; exact hi) rfl (fun ls2 hl2 => ?_)
  exact k H locs cells slots ls2 _ hR hlocs (hl.set1 hno (by rw [← ez]; rfl) hls hl2) hs hc1 hc2
theorem J_istore (h : OKx g x own cc d) {i : Nat} {a : Int} {lsn : List MVal} (hd : decode cc pc = .ok (.istore i, 2)) (hi : i < ls.length) (hno : noL ls i = true) (hls : ls.set i (vI a) = lsn)
    (k : Jd g x (pc + 2) lsn st T M sz nc ns) : Jd g x pc ls (vI a :: st) T M sz nc ns := by
  obtain ⟨p, l, e, R, s, m, args, below, meth, c, Q⟩ := x
  have hx : p.tables.exec = Jvm.exec := h.1
  have hb : c.code = cc := h.2.1
  have hown : s.vm.findClass own = some m.cls := h.2.2.1
  have hts : ∀ w ∈ tblG, w.before args s = true := h.2.2.2.1
  intro H locs cells slots lsC stC hR hlocs hl hs hc1 hc2
  obtain ⟨z, stC, rfl, ez, hs⟩ := st_I hs
  refine lv_istore hx hb hd (lvOf_has hl) (by rw [← hl.2.1, hl.1]; exact hi) rfl (fun ls2 hl2 => ?_)
  exact k H locs cells slots ls2 _ hR hlocs (hl.set1 hno (by rw [← ez]; rfl) hls hl2) hs hc1 hc2
theorem J_astore_n (h : OKx g x own cc d) {j : Fin 4} {i : Nat} {a : Nat} {lsn : List MVal} (hd : decode cc pc = .ok (.astore_n j, 1)) (hj : (j : Nat) = i) (hi : i < ls.length) (hno : noL ls i = true) (hls : ls.set i (vR a) = lsn)
    (k : Jd g x (pc + 1) lsn st T M sz nc ns) : Jd g x pc ls (vR a :: st) T M sz nc ns := by
  obtain ⟨p, l, e, R, s, m, args, below, meth, c, Q⟩ := x
  have hx : p.tables.exec = Jvm.exec := h.1
  have hb : c.code = cc := h.2.1
  have hown : s.vm.findClass own = some m.cls := h.2.2.1
  have hts : ∀ w ∈ tblG, w.before args s = true := h.2.2.2.1
  intro H locs cells slots lsC stC hR hlocs hl hs hc1 hc2
  obtain ⟨stC, rfl, hs9⟩ := st_R hs; replace hs := hs9; clear hs9
  refine lv_astore_n hx hb hd hj (lvOf_has hl) (by rw [← hl.2.1, hl.1]; exact hi) rfl (fun ls2 hl2 => ?_)
  exact k H locs cells slots ls2 _ hR hlocs (hl.set1 hno (show vabs (.ref a) = vR a from rfl) hls hl2) hs hc1 hc2
theorem J_astore (h : OKx g x own cc d) {i : Nat} {a : Nat} {lsn : List MVal} (hd : decode cc pc = .ok (.astore i, 2)) (hi : i < ls.length) (hno : noL ls i = true) (hls : ls.set i (vR a) = lsn)
    (k : Jd g x (pc + 2) lsn st T M sz nc ns) : Jd g x pc ls (vR a :: st) T M sz nc ns := by
  obtain ⟨p, l, e, R, s, m, args, below, meth, c, Q⟩ := x
  have hx : p.tables.exec = Jvm.exec := h.1
  have hb : c.code = cc := h.2.1
  have hown : s.vm.findClass own = some m.cls := h.2.2.1
  have hts : ∀ w ∈ tblG, w.before args s = true := h.2.2.2.1
  intro H locs cells slots lsC stC hR hlocs hl hs hc1 hc2
  obtain ⟨stC, rfl, hs9⟩ := st_R hs; replace hs := hs9; clear hs9
  refine lv_astore hx hb hd (lvOf_has hl) (by rw [← hl.2.1, hl.1]; exact hi) rfl (fun ls2 hl2 => ?_)
  exact k H locs cells slots ls2 _ hR hlocs (hl.set1 hno (show vabs (.ref a) = vR a from rfl) hls hl2) hs hc1 hc2
theorem J_lstore_n (h : OKx g x own cc d) {j : Fin 4} {i : Nat} {a : Int} {lsn : List MVal} (hd : decode cc pc = .ok (.lstore_n j, 1)) (hj : (j : Nat) = i) (hi : i + 1 < ls.length) (hno : noL ls i = true) (hls : (ls.set i (vL a)).set (i + 1) vU = lsn)
    (k : Jd g x (pc + 1) lsn st T M sz nc ns) : Jd g x pc ls (vL a :: st) T M sz nc ns := by
  obtain ⟨p, l, e, R, s, m, args, below, meth, c, Q⟩ := x
  have hx : p.tables.exec = Jvm.exec := h.1
  have hb : c.code = cc := h.2.1
  have hown : s.vm.findClass own = some m.cls := h.2.2.1
  have hts : ∀ w ∈ tblG, w.before args s = true := h.2.2.2.1
  intro H locs cells slots lsC stC hR hlocs hl hs hc1 hc2
  obtain ⟨z, stC, rfl, ez, hs⟩ := st_L hs
  refine lv_lstore_n hx hb hd hj (lvOf_has hl) (by rw [← hl.2.1, hl.1]; exact hi) rfl (fun ls2 hl2 => ?_)
  exact k H locs cells slots ls2 _ hR hlocs (hl.set2 hno (by rw [← ez]; rfl) hls hl2) hs hc1 hc2
theorem J_lstore (h : OKx g x own cc d) {i : Nat} {a : Int} {lsn : List MVal} (hd : decode cc pc = .ok (.lstore i, 2)) (hi : i + 1 < ls.length) (hno : noL ls i = true) (hls : (ls.set i (vL a)).set (i + 1) vU = lsn)
    (k : Jd g x (pc + 2) lsn st T M sz nc ns) : Jd g x pc ls (vL a :: st) T M sz nc ns := by
  obtain ⟨p, l, e, R, s, m, args, below, meth, c, Q⟩ := x
  have hx : p.tables.exec = Jvm.exec := h.1
  have hb : c.code = cc := h.2.1
  have hown : s.vm.findClass own = some m.cls := h.2.2.1
  have hts : ∀ w ∈ tblG, w.before args s = true := h.2.2.2.1
  intro H locs cells slots lsC stC hR hlocs hl hs hc1 hc2
  obtain ⟨z, stC, rfl, ez, hs⟩ := st_L hs
  refine lv_lstore hx hb hd (lvOf_has hl) (by rw [← hl.2.1, hl.1]; exact hi) rfl (fun ls2 hl2 => ?_)
  exact k H locs cells slots ls2 _ hR hlocs (hl.set2 hno (by rw [← ez]; rfl) hls hl2) hs hc1 hc2
theorem J_iinc (h : OKx g x own cc d) {i : Nat} {n a v : Int} {lsn : List MVal} (hd : decode cc pc = .ok (.iinc i n, 3)) (hi : ls[i]? = some (vI a)) (hv : w32 (a + (Int32.ofInt n).toInt) = v) (hno : noL ls i = true) (hls : ls.set i (vI v) = lsn)
    (k : Jd g x (pc + 3) lsn st T M sz nc ns) : Jd g x pc ls st T M sz nc ns := by
  obtain ⟨p, l, e, R, s, m, args, below, meth, c, Q⟩ := x
  have hx : p.tables.exec = Jvm.exec := h.1
  have hb : c.code = cc := h.2.1
  have hown : s.vm.findClass own = some m.cls := h.2.2.1
  have hts : ∀ w ∈ tblG, w.before args s = true := h.2.2.2.1
  intro H locs cells slots lsC stC hR hlocs hl hs hc1 hc2
  obtain ⟨z, hz, ez⟩ := hl.I hi
  obtain ⟨k9, hk9⟩ := List.getElem?_of_mem (lvOf_mem.mpr hz)
  refine lv_iinc (k := k9) hx hb hd (lvOf_has hl) hk9 rfl (by rw [← hl.2.1, hl.1]; exact (List.getElem?_eq_some_iff.mp hi).1) rfl (fun ls2 hl2 => ?_)
  exact k H locs cells slots ls2 _ hR hlocs (hl.set1 hno (by show vI _ = vI _; rw [Int32.toInt_add, ez, ← hv]; rfl) hls hl2) hs hc1 hc2
theorem J_dup (h : OKx g x own cc d) {a : MVal} (hd : decode cc pc = .ok (.dup, 1)) (ha : vone a = true)
    (k : Jd g x (pc + 1) ls (a :: a :: st) T M sz nc ns) : Jd g x pc ls (a :: st) T M sz nc ns := by
  obtain ⟨p, l, e, R, s, m, args, below, meth, c, Q⟩ := x
  have hx : p.tables.exec = Jvm.exec := h.1
  have hb : c.code = cc := h.2.1
  have hown : s.vm.findClass own = some m.cls := h.2.2.1
  have hts : ∀ w ∈ tblG, w.before args s = true := h.2.2.2.1
  intro H locs cells slots lsC stC hR hlocs hl hs hc1 hc2
  obtain ⟨va, stC, rfl, ea, hs⟩ := st_cons hs
  refine lv_dup hx hb hd (vone_cat ea ha) ?_
  exact k H locs cells slots lsC _ hR hlocs hl (by simp only [List.map_cons, hs, ea]) hc1 hc2
theorem J_pop (h : OKx g x own cc d) {a : MVal} (hd : decode cc pc = .ok (.pop, 1)) (ha : vone a = true)
    (k : Jd g x (pc + 1) ls st T M sz nc ns) : Jd g x pc ls (a :: st) T M sz nc ns := by
  obtain ⟨p, l, e, R, s, m, args, below, meth, c, Q⟩ := x
  have hx : p.tables.exec = Jvm.exec := h.1
  have hb : c.code = cc := h.2.1
  have hown : s.vm.findClass own = some m.cls := h.2.2.1
  have hts : ∀ w ∈ tblG, w.before args s = true := h.2.2.2.1
  intro H locs cells slots lsC stC hR hlocs hl hs hc1 hc2
  obtain ⟨va, stC, rfl, ea, hs⟩ := st_cons hs
  refine lv_pop hx hb hd (vone_cat ea ha) ?_
  exact k H locs cells slots lsC _ hR hlocs hl hs hc1 hc2
theorem J_dup_x1 (h : OKx g x own cc d) {a b : MVal} (hd : decode cc pc = .ok (.dup_x1, 1)) (ha : vone a = true) (hb0 : vone b = true)
    (k : Jd g x (pc + 1) ls (a :: b :: a :: st) T M sz nc ns) : Jd g x pc ls (a :: b :: st) T M sz nc ns := by
  obtain ⟨p, l, e, R, s, m, args, below, meth, c, Q⟩ := x
  have hx : p.tables.exec = Jvm.exec := h.1
  have hb : c.code = cc := h.2.1
  have hown : s.vm.findClass own = some m.cls := h.2.2.1
  have hts : ∀ w ∈ tblG, w.before args s = true := h.2.2.2.1
  intro H locs cells slots lsC stC hR hlocs hl hs hc1 hc2
  obtain ⟨va, stC, rfl, ea, hs⟩ := st_cons hs
  obtain ⟨vb, stC, rfl, eb, hs⟩ := st_cons hs
  refine lv_dup_x1 hx hb hd (vone_cat ea ha) (vone_cat eb hb0) ?_
  exact k H locs cells slots lsC _ hR hlocs hl (by simp only [List.map_cons, hs, ea, eb]) hc1 hc2
theorem J_dup_x2 (h : OKx g x own cc d) {a b b2 : MVal} (hd : decode cc pc = .ok (.dup_x2, 1)) (ha : vone a = true) (hb0 : vone b = true) (hd0 : vone b2 = true)
    (k : Jd g x (pc + 1) ls (a :: b :: b2 :: a :: st) T M sz nc ns) : Jd g x pc ls (a :: b :: b2 :: st) T M sz nc ns := by
  obtain ⟨p, l, e, R, s, m, args, below, meth, c, Q⟩ := x
  have hx : p.tables.exec = Jvm.exec := h.1
  have hb : c.code = cc := h.2.1
  have hown : s.vm.findClass own = some m.cls := h.2.2.1
  have hts : ∀ w ∈ tblG, w.before args s = true := h.2.2.2.1
  intro H locs cells slots lsC stC hR hlocs hl hs hc1 hc2
  obtain ⟨va, stC, rfl, ea, hs⟩ := st_cons hs
  obtain ⟨vb, stC, rfl, eb, hs⟩ := st_cons hs
  obtain ⟨vd, stC, rfl, ed, hs⟩ := st_cons hs
  refine lv_dup_x2 hx hb hd (vone_cat ea ha) (vone_cat eb hb0) (vone_cat ed hd0) ?_
  exact k H locs cells slots lsC _ hR hlocs hl (by simp only [List.map_cons, hs, ea, eb, ed]) hc1 hc2
theorem J_dup2 (h : OKx g x own cc d) {a b : MVal} (hd : decode cc pc = .ok (.dup2, 1)) (ha : vone a = true) (hb0 : vone b = true)
    (k : Jd g x (pc + 1) ls (a :: b :: a :: b :: st) T M sz nc ns) : Jd g x pc ls (a :: b :: st) T M sz nc ns := by
  obtain ⟨p, l, e, R, s, m, args, below, meth, c, Q⟩ := x
  have hx : p.tables.exec = Jvm.exec := h.1
  have hb : c.code = cc := h.2.1
  have hown : s.vm.findClass own = some m.cls := h.2.2.1
  have hts : ∀ w ∈ tblG, w.before args s = true := h.2.2.2.1
  intro H locs cells slots lsC stC hR hlocs hl hs hc1 hc2
  obtain ⟨va, stC, rfl, ea, hs⟩ := st_cons hs
  obtain ⟨vb, stC, rfl, eb, hs⟩ := st_cons hs
  refine lv_dup2_11 hx hb hd (vone_cat ea ha) (vone_cat eb hb0) ?_
  exact k H locs cells slots lsC _ hR hlocs hl (by simp only [List.map_cons, hs, ea, eb]) hc1 hc2
theorem J_iadd (h : OKx g x own cc d) {a b v : Int} (hd : decode cc pc = .ok (.iadd, 1)) (hv : w32 (a + b) = v)
    (k : Jd g x (pc + 1) ls (vI v :: st) T M sz nc ns) : Jd g x pc ls (vI b :: vI a :: st) T M sz nc ns := by
  obtain ⟨p, l, e, R, s, m, args, below, meth, c, Q⟩ := x
  have hx : p.tables.exec = Jvm.exec := h.1
  have hb : c.code = cc := h.2.1
  have hown : s.vm.findClass own = some m.cls := h.2.2.1
  have hts : ∀ w ∈ tblG, w.before args s = true := h.2.2.2.1
  intro H locs cells slots lsC stC hR hlocs hl hs hc1 hc2
  obtain ⟨y1, stC, rfl, ey, hs⟩ := st_I hs
  obtain ⟨x1, stC, rfl, ex, hs⟩ := st_I hs
  refine lv_iadd hx hb hd ?_
  exact k H locs cells slots lsC _ hR hlocs hl (by rw [List.map_cons, hs]; congr 1; show vI _ = vI _; rw [Int32.toInt_add, ex, ey, ← hv]; rfl) hc1 hc2
theorem J_isub (h : OKx g x own cc d) {a b v : Int} (hd : decode cc pc = .ok (.isub, 1)) (hv : w32 (a - b) = v)
    (k : Jd g x (pc + 1) ls (vI v :: st) T M sz nc ns) : Jd g x pc ls (vI b :: vI a :: st) T M sz nc ns := by
  obtain ⟨p, l, e, R, s, m, args, below, meth, c, Q⟩ := x
  have hx : p.tables.exec = Jvm.exec := h.1
  have hb : c.code = cc := h.2.1
  have hown : s.vm.findClass own = some m.cls := h.2.2.1
  have hts : ∀ w ∈ tblG, w.before args s = true := h.2.2.2.1
  intro H locs cells slots lsC stC hR hlocs hl hs hc1 hc2
  obtain ⟨y1, stC, rfl, ey, hs⟩ := st_I hs
  obtain ⟨x1, stC, rfl, ex, hs⟩ := st_I hs
  refine lv_isub hx hb hd ?_
  exact k H locs cells slots lsC _ hR hlocs hl (by rw [List.map_cons, hs]; congr 1; show vI _ = vI _; rw [Int32.toInt_sub, ex, ey, ← hv]; rfl) hc1 hc2
theorem J_imul (h : OKx g x own cc d) {a b v : Int} (hd : decode cc pc = .ok (.imul, 1)) (hv : w32 (a * b) = v)
    (k : Jd g x (pc + 1) ls (vI v :: st) T M sz nc ns) : Jd g x pc ls (vI b :: vI a :: st) T M sz nc ns := by
  obtain ⟨p, l, e, R, s, m, args, below, meth, c, Q⟩ := x
  have hx : p.tables.exec = Jvm.exec := h.1
  have hb : c.code = cc := h.2.1
  have hown : s.vm.findClass own = some m.cls := h.2.2.1
  have hts : ∀ w ∈ tblG, w.before args s = true := h.2.2.2.1
  intro H locs cells slots lsC stC hR hlocs hl hs hc1 hc2
  obtain ⟨y1, stC, rfl, ey, hs⟩ := st_I hs
  obtain ⟨x1, stC, rfl, ex, hs⟩ := st_I hs
  refine lv_imul hx hb hd ?_
  exact k H locs cells slots lsC _ hR hlocs hl (by rw [List.map_cons, hs]; congr 1; show vI _ = vI _; rw [Int32.toInt_mul, ex, ey, ← hv]; rfl) hc1 hc2
theorem J_idiv (h : OKx g x own cc d) {a b v : Int} (hd : decode cc pc = .ok (.idiv, 1)) (hne : b ≠ 0) (hv : w32 (a.tdiv b) = v)
    (k : Jd g x (pc + 1) ls (vI v :: st) T M sz nc ns) : Jd g x pc ls (vI b :: vI a :: st) T M sz nc ns := by
  obtain ⟨p, l, e, R, s, m, args, below, meth, c, Q⟩ := x
  have hx : p.tables.exec = Jvm.exec := h.1
  have hb : c.code = cc := h.2.1
  have hown : s.vm.findClass own = some m.cls := h.2.2.1
  have hts : ∀ w ∈ tblG, w.before args s = true := h.2.2.2.1
  intro H locs cells slots lsC stC hR hlocs hl hs hc1 hc2
  obtain ⟨y1, stC, rfl, ey, hs⟩ := st_I hs
  obtain ⟨x1, stC, rfl, ex, hs⟩ := st_I hs
  have hn0 : ¬ y1 = 0 := fun q => hne (by rw [← ey, q]; rfl)
  refine lv_idiv hx hb hd hn0 ?_
  exact k H locs cells slots lsC _ hR hlocs hl (by rw [List.map_cons, hs]; congr 1; show vI _ = vI _; rw [Int32.toInt_div, ex, ey, ← hv]; rfl) hc1 hc2
theorem J_irem (h : OKx g x own cc d) {a b v : Int} (hd : decode cc pc = .ok (.irem, 1)) (hne : b ≠ 0) (hv : a.tmod b = v)
    (k : Jd g x (pc + 1) ls (vI v :: st) T M sz nc ns) : Jd g x pc ls (vI b :: vI a :: st) T M sz nc ns := by
  obtain ⟨p, l, e, R, s, m, args, below, meth, c, Q⟩ := x
  have hx : p.tables.exec = Jvm.exec := h.1
  have hb : c.code = cc := h.2.1
  have hown : s.vm.findClass own = some m.cls := h.2.2.1
  have hts : ∀ w ∈ tblG, w.before args s = true := h.2.2.2.1
  intro H locs cells slots lsC stC hR hlocs hl hs hc1 hc2
  obtain ⟨y1, stC, rfl, ey, hs⟩ := st_I hs
  obtain ⟨x1, stC, rfl, ex, hs⟩ := st_I hs
  have hn0 : ¬ y1 = 0 := fun q => hne (by rw [← ey, q]; rfl)
  refine lv_irem hx hb hd hn0 ?_
  exact k H locs cells slots lsC _ hR hlocs hl (by rw [List.map_cons, hs]; congr 1; show vI _ = vI _; rw [rem_toInt, ex, ey, ← hv]) hc1 hc2
theorem J_iand (h : OKx g x own cc d) {a b v : Int} (hd : decode cc pc = .ok (.iand, 1)) (hv : jand a b = v)
    (k : Jd g x (pc + 1) ls (vI v :: st) T M sz nc ns) : Jd g x pc ls (vI b :: vI a :: st) T M sz nc ns := by
  obtain ⟨p, l, e, R, s, m, args, below, meth, c, Q⟩ := x
  have hx : p.tables.exec = Jvm.exec := h.1
  have hb : c.code = cc := h.2.1
  have hown : s.vm.findClass own = some m.cls := h.2.2.1
  have hts : ∀ w ∈ tblG, w.before args s = true := h.2.2.2.1
  intro H locs cells slots lsC stC hR hlocs hl hs hc1 hc2
  obtain ⟨y1, stC, rfl, ey, hs⟩ := st_I hs
  obtain ⟨x1, stC, rfl, ex, hs⟩ := st_I hs
  refine lv_iand hx hb hd ?_
  exact k H locs cells slots lsC _ hR hlocs hl (by rw [List.map_cons, hs]; congr 1; show vI _ = vI _; rw [← hv, ← ex, ← ey]; unfold jand; rw [Int32.ofInt_toInt, Int32.ofInt_toInt]) hc1 hc2
theorem J_ior (h : OKx g x own cc d) {a b v : Int} (hd : decode cc pc = .ok (.ior, 1)) (hv : jor a b = v)
    (k : Jd g x (pc + 1) ls (vI v :: st) T M sz nc ns) : Jd g x pc ls (vI b :: vI a :: st) T M sz nc ns := by
  obtain ⟨p, l, e, R, s, m, args, below, meth, c, Q⟩ := x
  have hx : p.tables.exec = Jvm.exec := h.1
  have hb : c.code = cc := h.2.1
  have hown : s.vm.findClass own = some m.cls := h.2.2.1
  have hts : ∀ w ∈ tblG, w.before args s = true := h.2.2.2.1
  intro H locs cells slots lsC stC hR hlocs hl hs hc1 hc2
  obtain ⟨y1, stC, rfl, ey, hs⟩ := st_I hs
  obtain ⟨x1, stC, rfl, ex, hs⟩ := st_I hs
  refine lv_ior hx hb hd ?_
  exact k H locs cells slots lsC _ hR hlocs hl (by rw [List.map_cons, hs]; congr 1; show vI _ = vI _; rw [← hv, ← ex, ← ey]; unfold jor; rw [Int32.ofInt_toInt, Int32.ofInt_toInt]) hc1 hc2
theorem J_ishl (h : OKx g x own cc d) {a b v : Int} (hd : decode cc pc = .ok (.ishl, 1)) (hv : jshl a b = v)
    (k : Jd g x (pc + 1) ls (vI v :: st) T M sz nc ns) : Jd g x pc ls (vI b :: vI a :: st) T M sz nc ns := by
  obtain ⟨p, l, e, R, s, m, args, below, meth, c, Q⟩ := x
  have hx : p.tables.exec = Jvm.exec := h.1
  have hb : c.code = cc := h.2.1
  have hown : s.vm.findClass own = some m.cls := h.2.2.1
  have hts : ∀ w ∈ tblG, w.before args s = true := h.2.2.2.1
  intro H locs cells slots lsC stC hR hlocs hl hs hc1 hc2
  obtain ⟨y1, stC, rfl, ey, hs⟩ := st_I hs
  obtain ⟨x1, stC, rfl, ex, hs⟩ := st_I hs
  refine lv_ishl hx hb hd ?_
  exact k H locs cells slots lsC _ hR hlocs hl (by rw [List.map_cons, hs]; congr 1; show vI _ = vI _; rw [← hv, ← ex, ← ey]; unfold jshl; rw [Int32.ofInt_toInt, Int32.ofInt_toInt]) hc1 hc2
theorem J_ishr (h : OKx g x own cc d) {a b v : Int} (hd : decode cc pc = .ok (.ishr, 1)) (hv : jshr a b = v)
    (k : Jd g x (pc + 1) ls (vI v :: st) T M sz nc ns) : Jd g x pc ls (vI b :: vI a :: st) T M sz nc ns := by
  obtain ⟨p, l, e, R, s, m, args, below, meth, c, Q⟩ := x
  have hx : p.tables.exec = Jvm.exec := h.1
  have hb : c.code = cc := h.2.1
  have hown : s.vm.findClass own = some m.cls := h.2.2.1
  have hts : ∀ w ∈ tblG, w.before args s = true := h.2.2.2.1
  intro H locs cells slots lsC stC hR hlocs hl hs hc1 hc2
  obtain ⟨y1, stC, rfl, ey, hs⟩ := st_I hs
  obtain ⟨x1, stC, rfl, ex, hs⟩ := st_I hs
  refine lv_ishr hx hb hd ?_
  exact k H locs cells slots lsC _ hR hlocs hl (by rw [List.map_cons, hs]; congr 1; show vI _ = vI _; rw [← hv, ← ex, ← ey]; unfold jshr; rw [Int32.ofInt_toInt, Int32.ofInt_toInt]) hc1 hc2
theorem J_iushr (h : OKx g x own cc d) {a b v : Int} (hd : decode cc pc = .ok (.iushr, 1)) (hv : jushr a b = v)
    (k : Jd g x (pc + 1) ls (vI v :: st) T M sz nc ns) : Jd g x pc ls (vI b :: vI a :: st) T M sz nc ns := by
  obtain ⟨p, l, e, R, s, m, args, below, meth, c, Q⟩ := x
  have hx : p.tables.exec = Jvm.exec := h.1
  have hb : c.code = cc := h.2.1
  have hown : s.vm.findClass own = some m.cls := h.2.2.1
  have hts : ∀ w ∈ tblG, w.before args s = true := h.2.2.2.1
  intro H locs cells slots lsC stC hR hlocs hl hs hc1 hc2
  obtain ⟨y1, stC, rfl, ey, hs⟩ := st_I hs
  obtain ⟨x1, stC, rfl, ex, hs⟩ := st_I hs
  refine lv_iushr hx hb hd rfl ?_
  exact k H locs cells slots lsC _ hR hlocs hl (by rw [List.map_cons, hs]; congr 1; show vI _ = vI _; rw [← hv, ← ex, ← ey]; unfold jushr; rw [Int32.ofInt_toInt, Int32.ofInt_toInt]) hc1 hc2
theorem J_land (h : OKx g x own cc d) {a b v : Int} (hd : decode cc pc = .ok (.land, 1)) (hv : jland a b = v)
    (k : Jd g x (pc + 1) ls (vL v :: st) T M sz nc ns) : Jd g x pc ls (vL b :: vL a :: st) T M sz nc ns := by
  obtain ⟨p, l, e, R, s, m, args, below, meth, c, Q⟩ := x
  have hx : p.tables.exec = Jvm.exec := h.1
  have hb : c.code = cc := h.2.1
  have hown : s.vm.findClass own = some m.cls := h.2.2.1
  have hts : ∀ w ∈ tblG, w.before args s = true := h.2.2.2.1
  intro H locs cells slots lsC stC hR hlocs hl hs hc1 hc2
  obtain ⟨y1, stC, rfl, ey, hs⟩ := st_L hs
  obtain ⟨x1, stC, rfl, ex, hs⟩ := st_L hs
  refine lv_land hx hb hd ?_
  exact k H locs cells slots lsC _ hR hlocs hl (by rw [List.map_cons, hs]; congr 1; show vL _ = vL _; rw [← hv, ← ex, ← ey]; unfold jland; rw [Int64.ofInt_toInt, Int64.ofInt_toInt]) hc1 hc2
theorem J_lor (h : OKx g x own cc d) {a b v : Int} (hd : decode cc pc = .ok (.lor, 1)) (hv : jlor a b = v)
    (k : Jd g x (pc + 1) ls (vL v :: st) T M sz nc ns) : Jd g x pc ls (vL b :: vL a :: st) T M sz nc ns := by
  obtain ⟨p, l, e, R, s, m, args, below, meth, c, Q⟩ := x
  have hx : p.tables.exec = Jvm.exec := h.1
  have hb : c.code = cc := h.2.1
  have hown : s.vm.findClass own = some m.cls := h.2.2.1
  have hts : ∀ w ∈ tblG, w.before args s = true := h.2.2.2.1
  intro H locs cells slots lsC stC hR hlocs hl hs hc1 hc2
  obtain ⟨y1, stC, rfl, ey, hs⟩ := st_L hs
  obtain ⟨x1, stC, rfl, ex, hs⟩ := st_L hs
  refine lv_lor hx hb hd ?_
  exact k H locs cells slots lsC _ hR hlocs hl (by rw [List.map_cons, hs]; congr 1; show vL _ = vL _; rw [← hv, ← ex, ← ey]; unfold jlor; rw [Int64.ofInt_toInt, Int64.ofInt_toInt]) hc1 hc2
theorem J_ldiv (h : OKx g x own cc d) {a b v : Int} (hd : decode cc pc = .ok (.ldiv, 1)) (hne : b ≠ 0) (hv : (a.tdiv b).bmod 18446744073709551616 = v)
    (k : Jd g x (pc + 1) ls (vL v :: st) T M sz nc ns) : Jd g x pc ls (vL b :: vL a :: st) T M sz nc ns := by
  obtain ⟨p, l, e, R, s, m, args, below, meth, c, Q⟩ := x
  have hx : p.tables.exec = Jvm.exec := h.1
  have hb : c.code = cc := h.2.1
  have hown : s.vm.findClass own = some m.cls := h.2.2.1
  have hts : ∀ w ∈ tblG, w.before args s = true := h.2.2.2.1
  intro H locs cells slots lsC stC hR hlocs hl hs hc1 hc2
  obtain ⟨y1, stC, rfl, ey, hs⟩ := st_L hs
  obtain ⟨x1, stC, rfl, ex, hs⟩ := st_L hs
  have hn0 : ¬ y1 = 0 := fun q => hne (by rw [← ey, q]; rfl)
  refine lv_ldiv hx hb hd hn0 ?_
  exact k H locs cells slots lsC _ hR hlocs hl (by rw [List.map_cons, hs]; congr 1; show vL _ = vL _; rw [Int64.toInt_div, ex, ey, ← hv]; try rfl) hc1 hc2
theorem J_lrem (h : OKx g x own cc d) {a b v : Int} (hd : decode cc pc = .ok (.lrem, 1)) (hne : b ≠ 0) (hv : a.tmod b = v)
    (k : Jd g x (pc + 1) ls (vL v :: st) T M sz nc ns) : Jd g x pc ls (vL b :: vL a :: st) T M sz nc ns := by
  obtain ⟨p, l, e, R, s, m, args, below, meth, c, Q⟩ := x
  have hx : p.tables.exec = Jvm.exec := h.1
  have hb : c.code = cc := h.2.1
  have hown : s.vm.findClass own = some m.cls := h.2.2.1
  have hts : ∀ w ∈ tblG, w.before args s = true := h.2.2.2.1
  intro H locs cells slots lsC stC hR hlocs hl hs hc1 hc2
  obtain ⟨y1, stC, rfl, ey, hs⟩ := st_L hs
  obtain ⟨x1, stC, rfl, ex, hs⟩ := st_L hs
  have hn0 : ¬ y1 = 0 := fun q => hne (by rw [← ey, q]; rfl)
  refine lv_lrem hx hb hd hn0 ?_
  exact k H locs cells slots lsC _ hR hlocs hl (by rw [List.map_cons, hs]; congr 1; show vL _ = vL _; rw [lrem_toInt, ex, ey, ← hv]) hc1 hc2
theorem J_lshl (h : OKx g x own cc d) {a b v : Int} (hd : decode cc pc = .ok (.lshl, 1)) (hv : jlshl a b = v)
    (k : Jd g x (pc + 1) ls (vL v :: st) T M sz nc ns) : Jd g x pc ls (vI b :: vL a :: st) T M sz nc ns := by
  obtain ⟨p, l, e, R, s, m, args, below, meth, c, Q⟩ := x
  have hx : p.tables.exec = Jvm.exec := h.1
  have hb : c.code = cc := h.2.1
  have hown : s.vm.findClass own = some m.cls := h.2.2.1
  have hts : ∀ w ∈ tblG, w.before args s = true := h.2.2.2.1
  intro H locs cells slots lsC stC hR hlocs hl hs hc1 hc2
  obtain ⟨y1, stC, rfl, ey, hs⟩ := st_I hs
  obtain ⟨x1, stC, rfl, ex, hs⟩ := st_L hs
  refine lv_lshl hx hb hd rfl ?_
  exact k H locs cells slots lsC _ hR hlocs hl (by rw [List.map_cons, hs]; congr 1; show vL _ = vL _; rw [← hv, ← ex, ← ey]; unfold jlshl; rw [Int32.ofInt_toInt, Int64.ofInt_toInt]) hc1 hc2
theorem J_lcmp (h : OKx g x own cc d) {a b : Int} (hd : decode cc pc = .ok (.lcmp, 1))
    (k : Jd g x (pc + 1) ls (vI (jcmp a b) :: st) T M sz nc ns) : Jd g x pc ls (vL b :: vL a :: st) T M sz nc ns := by
  obtain ⟨p, l, e, R, s, m, args, below, meth, c, Q⟩ := x
  have hx : p.tables.exec = Jvm.exec := h.1
  have hb : c.code = cc := h.2.1
  have hown : s.vm.findClass own = some m.cls := h.2.2.1
  have hts : ∀ w ∈ tblG, w.before args s = true := h.2.2.2.1
  intro H locs cells slots lsC stC hR hlocs hl hs hc1 hc2
  obtain ⟨y1, stC, rfl, ey, hs⟩ := st_L hs
  obtain ⟨x1, stC, rfl, ex, hs⟩ := st_L hs
  refine W.lcmp hx hb hd ?_
  exact k H locs cells slots lsC _ hR hlocs hl (by rw [List.map_cons, hs]; congr 1; show vI _ = vI _; rw [lg_cmp_toInt, ex, ey]) hc1 hc2
theorem J_ineg (h : OKx g x own cc d) {a v : Int} (hd : decode cc pc = .ok (.ineg, 1)) (hv : w32 (-a) = v)
    (k : Jd g x (pc + 1) ls (vI v :: st) T M sz nc ns) : Jd g x pc ls (vI a :: st) T M sz nc ns := by
  obtain ⟨p, l, e, R, s, m, args, below, meth, c, Q⟩ := x
  have hx : p.tables.exec = Jvm.exec := h.1
  have hb : c.code = cc := h.2.1
  have hown : s.vm.findClass own = some m.cls := h.2.2.1
  have hts : ∀ w ∈ tblG, w.before args s = true := h.2.2.2.1
  intro H locs cells slots lsC stC hR hlocs hl hs hc1 hc2
  obtain ⟨x1, stC, rfl, ex, hs⟩ := st_I hs
  refine lv_ineg hx hb hd ?_
  exact k H locs cells slots lsC _ hR hlocs hl (by rw [List.map_cons, hs]; congr 1; show vI _ = vI _; first | (rw [Int32.toInt_neg, ex, ← hv]; rfl) | (rw [Int32.toInt_sub, ex, ← hv]; show Int.bmod (0 - a) _ = _; rw [Int.zero_sub]; rfl)) hc1 hc2
theorem J_i2l (h : OKx g x own cc d) {a : Int} (hd : decode cc pc = .ok (.i2l, 1))
    (k : Jd g x (pc + 1) ls (vL a :: st) T M sz nc ns) : Jd g x pc ls (vI a :: st) T M sz nc ns := by
  obtain ⟨p, l, e, R, s, m, args, below, meth, c, Q⟩ := x
  have hx : p.tables.exec = Jvm.exec := h.1
  have hb : c.code = cc := h.2.1
  have hown : s.vm.findClass own = some m.cls := h.2.2.1
  have hts : ∀ w ∈ tblG, w.before args s = true := h.2.2.2.1
  intro H locs cells slots lsC stC hR hlocs hl hs hc1 hc2
  obtain ⟨x1, stC, rfl, ex, hs⟩ := st_I hs
  refine lv_i2l hx hb hd rfl ?_
  exact k H locs cells slots lsC _ hR hlocs hl (by rw [List.map_cons, hs]; congr 1; show vL _ = vL _; rw [Int32.toInt_toInt64, ex]) hc1 hc2
theorem J_l2i (h : OKx g x own cc d) {a v : Int} (hd : decode cc pc = .ok (.l2i, 1)) (hv : w32 a = v)
    (k : Jd g x (pc + 1) ls (vI v :: st) T M sz nc ns) : Jd g x pc ls (vL a :: st) T M sz nc ns := by
  obtain ⟨p, l, e, R, s, m, args, below, meth, c, Q⟩ := x
  have hx : p.tables.exec = Jvm.exec := h.1
  have hb : c.code = cc := h.2.1
  have hown : s.vm.findClass own = some m.cls := h.2.2.1
  have hts : ∀ w ∈ tblG, w.before args s = true := h.2.2.2.1
  intro H locs cells slots lsC stC hR hlocs hl hs hc1 hc2
  obtain ⟨x1, stC, rfl, ex, hs⟩ := st_L hs
  refine lv_l2i hx hb hd rfl ?_
  exact k H locs cells slots lsC _ hR hlocs hl (by rw [List.map_cons, hs]; congr 1; show vI _ = vI _; rw [Int64.toInt_toInt32, ex, ← hv]; rfl) hc1 hc2
theorem J_i2b (h : OKx g x own cc d) {a v : Int} (hd : decode cc pc = .ok (.i2b, 1)) (hv : a.bmod 256 = v)
    (k : Jd g x (pc + 1) ls (vI v :: st) T M sz nc ns) : Jd g x pc ls (vI a :: st) T M sz nc ns := by
  obtain ⟨p, l, e, R, s, m, args, below, meth, c, Q⟩ := x
  have hx : p.tables.exec = Jvm.exec := h.1
  have hb : c.code = cc := h.2.1
  have hown : s.vm.findClass own = some m.cls := h.2.2.1
  have hts : ∀ w ∈ tblG, w.before args s = true := h.2.2.2.1
  intro H locs cells slots lsC stC hR hlocs hl hs hc1 hc2
  obtain ⟨x1, stC, rfl, ex, hs⟩ := st_I hs
  refine lv_i2b hx hb hd rfl ?_
  exact k H locs cells slots lsC _ hR hlocs hl (by rw [List.map_cons, hs]; congr 1; show vI _ = vI _; rw [Int8.toInt_toInt32, Int32.toInt_toInt8, ex, ← hv]; try rfl) hc1 hc2
theorem J_i2s (h : OKx g x own cc d) {a v : Int} (hd : decode cc pc = .ok (.i2s, 1)) (hv : a.bmod 65536 = v)
    (k : Jd g x (pc + 1) ls (vI v :: st) T M sz nc ns) : Jd g x pc ls (vI a :: st) T M sz nc ns := by
  obtain ⟨p, l, e, R, s, m, args, below, meth, c, Q⟩ := x
  have hx : p.tables.exec = Jvm.exec := h.1
  have hb : c.code = cc := h.2.1
  have hown : s.vm.findClass own = some m.cls := h.2.2.1
  have hts : ∀ w ∈ tblG, w.before args s = true := h.2.2.2.1
  intro H locs cells slots lsC stC hR hlocs hl hs hc1 hc2
  obtain ⟨x1, stC, rfl, ex, hs⟩ := st_I hs
  refine lv_i2s hx hb hd rfl ?_
  exact k H locs cells slots lsC _ hR hlocs hl (by rw [List.map_cons, hs]; congr 1; show vI _ = vI _; rw [Int16.toInt_toInt32, Int32.toInt_toInt16, ex, ← hv]; try rfl) hc1 hc2
theorem J_icmp_eq (h : OKx g x own cc d) {a b off : Int} {tgt : Nat} (hd : decode cc pc = .ok (.if_icmp .eq off, 3)) (ht : (pc : Int) + off = (tgt : Int))
    (kt : a = b → Jd g x tgt ls st T M sz nc ns) (kf : ¬ (a = b) → Jd g x (pc + 3) ls st T M sz nc ns) : Jd g x pc ls (vI b :: vI a :: st) T M sz nc ns := by
  obtain ⟨p, l, e, R, s, m, args, below, meth, c, Q⟩ := x
  have hx : p.tables.exec = Jvm.exec := h.1
  have hb : c.code = cc := h.2.1
  have hown : s.vm.findClass own = some m.cls := h.2.2.1
  have hts : ∀ w ∈ tblG, w.before args s = true := h.2.2.2.1
  intro H locs cells slots lsC stC hR hlocs hl hs hc1 hc2
  obtain ⟨y1, stC, rfl, ey, hs⟩ := st_I hs
  obtain ⟨x1, stC, rfl, ex, hs⟩ := st_I hs
  refine lv_icmp_eq hx hb hd ht (fun q => ?_) (fun q => ?_)
  · exact kt (by rw [← ex, ← ey, q]; try rfl) H locs cells slots lsC _ hR hlocs hl hs hc1 hc2
  · exact kf (fun q3 => q (by have q := q3; exact Int32.toInt_inj.mp (by rw [ex, ey]; exact q))) H locs cells slots lsC _ hR hlocs hl hs hc1 hc2
theorem J_if_eq (h : OKx g x own cc d) {a off : Int} {tgt : Nat} (hd : decode cc pc = .ok (.ifCond .eq off, 3)) (ht : (pc : Int) + off = (tgt : Int))
    (kt : a = 0 → Jd g x tgt ls st T M sz nc ns) (kf : ¬ (a = 0) → Jd g x (pc + 3) ls st T M sz nc ns) : Jd g x pc ls (vI a :: st) T M sz nc ns := by
  obtain ⟨p, l, e, R, s, m, args, below, meth, c, Q⟩ := x
  have hx : p.tables.exec = Jvm.exec := h.1
  have hb : c.code = cc := h.2.1
  have hown : s.vm.findClass own = some m.cls := h.2.2.1
  have hts : ∀ w ∈ tblG, w.before args s = true := h.2.2.2.1
  intro H locs cells slots lsC stC hR hlocs hl hs hc1 hc2
  obtain ⟨x1, stC, rfl, ex, hs⟩ := st_I hs
  have ey : (0 : Int32).toInt = 0 := rfl
  refine lv_if_eq hx hb hd ht (fun q => ?_) (fun q => ?_)
  · exact kt (by rw [← ex, q]; try rfl) H locs cells slots lsC _ hR hlocs hl hs hc1 hc2
  · exact kf (fun q3 => q (by have q := q3; exact Int32.toInt_inj.mp (by rw [ex]; exact q))) H locs cells slots lsC _ hR hlocs hl hs hc1 hc2
theorem J_icmp_ne (h : OKx g x own cc d) {a b off : Int} {tgt : Nat} (hd : decode cc pc = .ok (.if_icmp .ne off, 3)) (ht : (pc : Int) + off = (tgt : Int))
    (kt : a ≠ b → Jd g x tgt ls st T M sz nc ns) (kf : a = b → Jd g x (pc + 3) ls st T M sz nc ns) : Jd g x pc ls (vI b :: vI a :: st) T M sz nc ns := by
  obtain ⟨p, l, e, R, s, m, args, below, meth, c, Q⟩ := x
  have hx : p.tables.exec = Jvm.exec := h.1
  have hb : c.code = cc := h.2.1
  have hown : s.vm.findClass own = some m.cls := h.2.2.1
  have hts : ∀ w ∈ tblG, w.before args s = true := h.2.2.2.1
  intro H locs cells slots lsC stC hR hlocs hl hs hc1 hc2
  obtain ⟨y1, stC, rfl, ey, hs⟩ := st_I hs
  obtain ⟨x1, stC, rfl, ex, hs⟩ := st_I hs
  refine lv_icmp_ne hx hb hd ht (fun q => ?_) (fun q => ?_)
  · exact kt (fun q2 => q (Int32.toInt_inj.mp (by rw [ex, ey]; exact q2))) H locs cells slots lsC _ hR hlocs hl hs hc1 hc2
  · exact kf (by rw [← ex, ← ey, q]) H locs cells slots lsC _ hR hlocs hl hs hc1 hc2
theorem J_if_ne (h : OKx g x own cc d) {a off : Int} {tgt : Nat} (hd : decode cc pc = .ok (.ifCond .ne off, 3)) (ht : (pc : Int) + off = (tgt : Int))
    (kt : a ≠ 0 → Jd g x tgt ls st T M sz nc ns) (kf : a = 0 → Jd g x (pc + 3) ls st T M sz nc ns) : Jd g x pc ls (vI a :: st) T M sz nc ns := by
  obtain ⟨p, l, e, R, s, m, args, below, meth, c, Q⟩ := x
  have hx : p.tables.exec = Jvm.exec := h.1
  have hb : c.code = cc := h.2.1
  have hown : s.vm.findClass own = some m.cls := h.2.2.1
  have hts : ∀ w ∈ tblG, w.before args s = true := h.2.2.2.1
  intro H locs cells slots lsC stC hR hlocs hl hs hc1 hc2
  obtain ⟨x1, stC, rfl, ex, hs⟩ := st_I hs
  have ey : (0 : Int32).toInt = 0 := rfl
  refine lv_if_ne hx hb hd ht (fun q => ?_) (fun q => ?_)
  · exact kt (fun q2 => q (Int32.toInt_inj.mp (by rw [ex]; exact q2))) H locs cells slots lsC _ hR hlocs hl hs hc1 hc2
  · exact kf (by rw [← ex, q]; rfl) H locs cells slots lsC _ hR hlocs hl hs hc1 hc2
theorem J_icmp_lt (h : OKx g x own cc d) {a b off : Int} {tgt : Nat} (hd : decode cc pc = .ok (.if_icmp .lt off, 3)) (ht : (pc : Int) + off = (tgt : Int))
    (kt : a < b → Jd g x tgt ls st T M sz nc ns) (kf : ¬ (a < b) → Jd g x (pc + 3) ls st T M sz nc ns) : Jd g x pc ls (vI b :: vI a :: st) T M sz nc ns := by
  obtain ⟨p, l, e, R, s, m, args, below, meth, c, Q⟩ := x
  have hx : p.tables.exec = Jvm.exec := h.1
  have hb : c.code = cc := h.2.1
  have hown : s.vm.findClass own = some m.cls := h.2.2.1
  have hts : ∀ w ∈ tblG, w.before args s = true := h.2.2.2.1
  intro H locs cells slots lsC stC hR hlocs hl hs hc1 hc2
  obtain ⟨y1, stC, rfl, ey, hs⟩ := st_I hs
  obtain ⟨x1, stC, rfl, ex, hs⟩ := st_I hs
  refine lv_icmp_lt hx hb hd ht (fun q => ?_) (fun q => ?_)
  · exact kt (by rw [← ex, ← ey]; exact Int32.lt_iff_toInt_lt.mp q) H locs cells slots lsC _ hR hlocs hl hs hc1 hc2
  · exact kf (fun q3 => q (by have q := q3; exact Int32.lt_iff_toInt_lt.mpr (by rw [ex, ey]; exact q))) H locs cells slots lsC _ hR hlocs hl hs hc1 hc2
theorem J_if_lt (h : OKx g x own cc d) {a off : Int} {tgt : Nat} (hd : decode cc pc = .ok (.ifCond .lt off, 3)) (ht : (pc : Int) + off = (tgt : Int))
    (kt : a < 0 → Jd g x tgt ls st T M sz nc ns) (kf : ¬ (a < 0) → Jd g x (pc + 3) ls st T M sz nc ns) : Jd g x pc ls (vI a :: st) T M sz nc ns := by
  obtain ⟨p, l, e, R, s, m, args, below, meth, c, Q⟩ := x
  have hx : p.tables.exec = Jvm.exec := h.1
  have hb : c.code = cc := h.2.1
  have hown : s.vm.findClass own = some m.cls := h.2.2.1
  have hts : ∀ w ∈ tblG, w.before args s = true := h.2.2.2.1
  intro H locs cells slots lsC stC hR hlocs hl hs hc1 hc2
  obtain ⟨x1, stC, rfl, ex, hs⟩ := st_I hs
  have ey : (0 : Int32).toInt = 0 := rfl
  refine lv_if_lt hx hb hd ht (fun q => ?_) (fun q => ?_)
  · exact kt (by rw [← ex]; exact Int32.lt_iff_toInt_lt.mp q) H locs cells slots lsC _ hR hlocs hl hs hc1 hc2
  · exact kf (fun q3 => q (by have q := q3; exact Int32.lt_iff_toInt_lt.mpr (by rw [ex]; exact q))) H locs cells slots lsC _ hR hlocs hl hs hc1 hc2
theorem J_icmp_ge (h : OKx g x own cc d) {a b off : Int} {tgt : Nat} (hd : decode cc pc = .ok (.if_icmp .ge off, 3)) (ht : (pc : Int) + off = (tgt : Int))
    (kt : b ≤ a → Jd g x tgt ls st T M sz nc ns) (kf : ¬ (b ≤ a) → Jd g x (pc + 3) ls st T M sz nc ns) : Jd g x pc ls (vI b :: vI a :: st) T M sz nc ns := by
  obtain ⟨p, l, e, R, s, m, args, below, meth, c, Q⟩ := x
  have hx : p.tables.exec = Jvm.exec := h.1
  have hb : c.code = cc := h.2.1
  have hown : s.vm.findClass own = some m.cls := h.2.2.1
  have hts : ∀ w ∈ tblG, w.before args s = true := h.2.2.2.1
  intro H locs cells slots lsC stC hR hlocs hl hs hc1 hc2
  obtain ⟨y1, stC, rfl, ey, hs⟩ := st_I hs
  obtain ⟨x1, stC, rfl, ex, hs⟩ := st_I hs
  refine lv_icmp_ge hx hb hd ht (fun q => ?_) (fun q => ?_)
  · exact kt (by rw [← ex, ← ey]; exact Int32.le_iff_toInt_le.mp q) H locs cells slots lsC _ hR hlocs hl hs hc1 hc2
  · exact kf (fun q3 => q (by have q := q3; exact Int32.le_iff_toInt_le.mpr (by rw [ex, ey]; exact q))) H locs cells slots lsC _ hR hlocs hl hs hc1 hc2
theorem J_if_ge (h : OKx g x own cc d) {a off : Int} {tgt : Nat} (hd : decode cc pc = .ok (.ifCond .ge off, 3)) (ht : (pc : Int) + off = (tgt : Int))
    (kt : 0 ≤ a → Jd g x tgt ls st T M sz nc ns) (kf : ¬ (0 ≤ a) → Jd g x (pc + 3) ls st T M sz nc ns) : Jd g x pc ls (vI a :: st) T M sz nc ns := by
  obtain ⟨p, l, e, R, s, m, args, below, meth, c, Q⟩ := x
  have hx : p.tables.exec = Jvm.exec := h.1
  have hb : c.code = cc := h.2.1
  have hown : s.vm.findClass own = some m.cls := h.2.2.1
  have hts : ∀ w ∈ tblG, w.before args s = true := h.2.2.2.1
  intro H locs cells slots lsC stC hR hlocs hl hs hc1 hc2
  obtain ⟨x1, stC, rfl, ex, hs⟩ := st_I hs
  have ey : (0 : Int32).toInt = 0 := rfl
  refine lv_if_ge hx hb hd ht (fun q => ?_) (fun q => ?_)
  · exact kt (by rw [← ex]; exact Int32.le_iff_toInt_le.mp q) H locs cells slots lsC _ hR hlocs hl hs hc1 hc2
  · exact kf (fun q3 => q (by have q := q3; exact Int32.le_iff_toInt_le.mpr (by rw [ex]; exact q))) H locs cells slots lsC _ hR hlocs hl hs hc1 hc2
theorem J_icmp_gt (h : OKx g x own cc d) {a b off : Int} {tgt : Nat} (hd : decode cc pc = .ok (.if_icmp .gt off, 3)) (ht : (pc : Int) + off = (tgt : Int))
    (kt : b < a → Jd g x tgt ls st T M sz nc ns) (kf : ¬ (b < a) → Jd g x (pc + 3) ls st T M sz nc ns) : Jd g x pc ls (vI b :: vI a :: st) T M sz nc ns := by
  obtain ⟨p, l, e, R, s, m, args, below, meth, c, Q⟩ := x
  have hx : p.tables.exec = Jvm.exec := h.1
  have hb : c.code = cc := h.2.1
  have hown : s.vm.findClass own = some m.cls := h.2.2.1
  have hts : ∀ w ∈ tblG, w.before args s = true := h.2.2.2.1
  intro H locs cells slots lsC stC hR hlocs hl hs hc1 hc2
  obtain ⟨y1, stC, rfl, ey, hs⟩ := st_I hs
  obtain ⟨x1, stC, rfl, ex, hs⟩ := st_I hs
  refine lv_icmp_gt hx hb hd ht (fun q => ?_) (fun q => ?_)
  · exact kt (by rw [← ex, ← ey]; exact Int32.lt_iff_toInt_lt.mp q) H locs cells slots lsC _ hR hlocs hl hs hc1 hc2
  · exact kf (fun q3 => q (by have q := q3; exact Int32.lt_iff_toInt_lt.mpr (by rw [ex, ey]; exact q))) H locs cells slots lsC _ hR hlocs hl hs hc1 hc2
theorem J_if_gt (h : OKx g x own cc d) {a off : Int} {tgt : Nat} (hd : decode cc pc = .ok (.ifCond .gt off, 3)) (ht : (pc : Int) + off = (tgt : Int))
    (kt : 0 < a → Jd g x tgt ls st T M sz nc ns) (kf : ¬ (0 < a) → Jd g x (pc + 3) ls st T M sz nc ns) : Jd g x pc ls (vI a :: st) T M sz nc ns := by
  obtain ⟨p, l, e, R, s, m, args, below, meth, c, Q⟩ := x
  have hx : p.tables.exec = Jvm.exec := h.1
  have hb : c.code = cc := h.2.1
  have hown : s.vm.findClass own = some m.cls := h.2.2.1
  have hts : ∀ w ∈ tblG, w.before args s = true := h.2.2.2.1
  intro H locs cells slots lsC stC hR hlocs hl hs hc1 hc2
  obtain ⟨x1, stC, rfl, ex, hs⟩ := st_I hs
  have ey : (0 : Int32).toInt = 0 := rfl
  refine lv_if_gt hx hb hd ht (fun q => ?_) (fun q => ?_)
  · exact kt (by rw [← ex]; exact Int32.lt_iff_toInt_lt.mp q) H locs cells slots lsC _ hR hlocs hl hs hc1 hc2
  · exact kf (fun q3 => q (by have q := q3; exact Int32.lt_iff_toInt_lt.mpr (by rw [ex]; exact q))) H locs cells slots lsC _ hR hlocs hl hs hc1 hc2
theorem J_icmp_le (h : OKx g x own cc d) {a b off : Int} {tgt : Nat} (hd : decode cc pc = .ok (.if_icmp .le off, 3)) (ht : (pc : Int) + off = (tgt : Int))
    (kt : a ≤ b → Jd g x tgt ls st T M sz nc ns) (kf : ¬ (a ≤ b) → Jd g x (pc + 3) ls st T M sz nc ns) : Jd g x pc ls (vI b :: vI a :: st) T M sz nc ns := by
  obtain ⟨p, l, e, R, s, m, args, below, meth, c, Q⟩ := x
  have hx : p.tables.exec = Jvm.exec := h.1
  have hb : c.code = cc := h.2.1
  have hown : s.vm.findClass own = some m.cls := h.2.2.1
  have hts : ∀ w ∈ tblG, w.before args s = true := h.2.2.2.1
  intro H locs cells slots lsC stC hR hlocs hl hs hc1 hc2
  obtain ⟨y1, stC, rfl, ey, hs⟩ := st_I hs
  obtain ⟨x1, stC, rfl, ex, hs⟩ := st_I hs
  refine lv_icmp_le hx hb hd ht (fun q => ?_) (fun q => ?_)
  · exact kt (by rw [← ex, ← ey]; exact Int32.le_iff_toInt_le.mp q) H locs cells slots lsC _ hR hlocs hl hs hc1 hc2
  · exact kf (fun q3 => q (by have q := q3; exact Int32.le_iff_toInt_le.mpr (by rw [ex, ey]; exact q))) H locs cells slots lsC _ hR hlocs hl hs hc1 hc2
theorem J_if_le (h : OKx g x own cc d) {a off : Int} {tgt : Nat} (hd : decode cc pc = .ok (.ifCond .le off, 3)) (ht : (pc : Int) + off = (tgt : Int))
    (kt : a ≤ 0 → Jd g x tgt ls st T M sz nc ns) (kf : ¬ (a ≤ 0) → Jd g x (pc + 3) ls st T M sz nc ns) : Jd g x pc ls (vI a :: st) T M sz nc ns := by
  obtain ⟨p, l, e, R, s, m, args, below, meth, c, Q⟩ := x
  have hx : p.tables.exec = Jvm.exec := h.1
  have hb : c.code = cc := h.2.1
  have hown : s.vm.findClass own = some m.cls := h.2.2.1
  have hts : ∀ w ∈ tblG, w.before args s = true := h.2.2.2.1
  intro H locs cells slots lsC stC hR hlocs hl hs hc1 hc2
  obtain ⟨x1, stC, rfl, ex, hs⟩ := st_I hs
  have ey : (0 : Int32).toInt = 0 := rfl
  refine lv_if_le hx hb hd ht (fun q => ?_) (fun q => ?_)
  · exact kt (by rw [← ex]; exact Int32.le_iff_toInt_le.mp q) H locs cells slots lsC _ hR hlocs hl hs hc1 hc2
  · exact kf (fun q3 => q (by have q := q3; exact Int32.le_iff_toInt_le.mpr (by rw [ex]; exact q))) H locs cells slots lsC _ hR hlocs hl hs hc1 hc2
theorem J_goto (h : OKx g x own cc d) {off : Int} {tgt : Nat} (hd : decode cc pc = .ok (.goto off, 3)) (ht : (pc : Int) + off = (tgt : Int))
    (k : Jd g x tgt ls st T M sz nc ns) : Jd g x pc ls st T M sz nc ns := by
  obtain ⟨p, l, e, R, s, m, args, below, meth, c, Q⟩ := x
  have hx : p.tables.exec = Jvm.exec := h.1
  have hb : c.code = cc := h.2.1
  have hown : s.vm.findClass own = some m.cls := h.2.2.1
  have hts : ∀ w ∈ tblG, w.before args s = true := h.2.2.2.1
  intro H locs cells slots lsC stC hR hlocs hl hs hc1 hc2
  refine lv_goto hx hb hd ht ?_
  exact k H locs cells slots lsC _ hR hlocs hl hs hc1 hc2
theorem J_ifnonnull (h : OKx g x own cc d) {r : Option Nat} {off : Int} {tgt : Nat} (hd : decode cc pc = .ok (.ifnonnull off, 3)) (ht : (pc : Int) + off = (tgt : Int))
    (kt : ∀ a, r = some a → Jd g x tgt ls st T M sz nc ns) (kf : r = none → Jd g x (pc + 3) ls st T M sz nc ns) : Jd g x pc ls (vrO r :: st) T M sz nc ns := by
  obtain ⟨p, l, e, R, s, m, args, below, meth, c, Q⟩ := x
  have hx : p.tables.exec = Jvm.exec := h.1
  have hb : c.code = cc := h.2.1
  have hown : s.vm.findClass own = some m.cls := h.2.2.1
  have hts : ∀ w ∈ tblG, w.before args s = true := h.2.2.2.1
  intro H locs cells slots lsC stC hR hlocs hl hs hc1 hc2
  cases r with
  | none =>
    obtain ⟨stC, rfl, hs9⟩ := st_N (st := st) (by exact hs); replace hs := hs9; clear hs9
    refine lv_ifnonnullN hx hb hd ?_
    exact kf rfl H locs cells slots lsC _ hR hlocs hl hs hc1 hc2
  | some a =>
    obtain ⟨stC, rfl, hs9⟩ := st_R (st := st) (by exact hs); replace hs := hs9; clear hs9
    refine lv_ifnonnull hx hb hd ht ?_
    exact kt a rfl H locs cells slots lsC _ hR hlocs hl hs hc1 hc2
theorem J_tswIn (h : OKx g x own cc d) {dflt lo hi off a : Int} {offs : Array Int} {len : Nat} {tgt : Nat} (hd : decode cc pc = .ok (.tableswitch dflt lo hi offs, len)) (h1 : lo ≤ a) (h2 : a ≤ hi) (ho : offs[(a - lo).toNat]? = some off) (ht : (pc : Int) + off = (tgt : Int))
    (k : Jd g x tgt ls st T M sz nc ns) : Jd g x pc ls (vI a :: st) T M sz nc ns := by
  obtain ⟨p, l, e, R, s, m, args, below, meth, c, Q⟩ := x
  have hx : p.tables.exec = Jvm.exec := h.1
  have hb : c.code = cc := h.2.1
  have hown : s.vm.findClass own = some m.cls := h.2.2.1
  have hts : ∀ w ∈ tblG, w.before args s = true := h.2.2.2.1
  intro H locs cells slots lsC stC hR hlocs hl hs hc1 hc2
  obtain ⟨x1, stC, rfl, ex, hs⟩ := st_I hs
  refine lv_tableIn hx hb hd (by rw [ex]; omega) (by rw [ex]; omega) (by rw [ex]; exact ho) ht ?_
  exact k H locs cells slots lsC _ hR hlocs hl hs hc1 hc2
theorem J_tswOut (h : OKx g x own cc d) {dflt lo hi a : Int} {offs : Array Int} {len : Nat} {tgt : Nat} (hd : decode cc pc = .ok (.tableswitch dflt lo hi offs, len)) (h1 : a < lo ∨ hi < a) (ht : (pc : Int) + dflt = (tgt : Int))
    (k : Jd g x tgt ls st T M sz nc ns) : Jd g x pc ls (vI a :: st) T M sz nc ns := by
  obtain ⟨p, l, e, R, s, m, args, below, meth, c, Q⟩ := x
  have hx : p.tables.exec = Jvm.exec := h.1
  have hb : c.code = cc := h.2.1
  have hown : s.vm.findClass own = some m.cls := h.2.2.1
  have hts : ∀ w ∈ tblG, w.before args s = true := h.2.2.2.1
  intro H locs cells slots lsC stC hR hlocs hl hs hc1 hc2
  obtain ⟨x1, stC, rfl, ex, hs⟩ := st_I hs
  refine lv_tableOut hx hb hd (by rw [ex]; exact h1) ht ?_
  exact k H locs cells slots lsC _ hR hlocs hl hs hc1 hc2
end
