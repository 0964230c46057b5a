/-! rules of the heap, of calls and returns -/
section
variable {g : WG} {x : CX} {own : String} {cc : ByteArray} {d : Nat} {pc : Nat} {ls st : List MVal} {T : TT} {M : MM} {sz nc ns : Nat}
/-- the entry idx of own's pool links to field j of class ci -/
def FLk (own : String) (idx ci j : Nat) : Prop := ∃ q : vw_C, vwCl[ci]? = some q ∧ j < q.2.2 ∧ Cond.fieldLink own idx (q.2.1 j).1 (q.2.1 j).2.1 (q.2.1 j).2.2.1 ∈ tblG
/-- what the tables say of each class: its fields' rows, their types, their names -/
def CLok (ci : Nat) : Prop := ∃ q : vw_C, vwCl[ci]? = some q ∧ (∀ w ∈ u_ws q.1 q.2.1 q.2.2, w ∈ tblG) ∧ (∀ k, k < q.2.2 → parseFieldDescriptor (q.2.1 k).2.2.1 = some (fty ci k)) ∧ (∀ a, a < q.2.2 → ∀ b, b < q.2.2 → a ≠ b → (q.2.1 a).2.1 ≠ (q.2.1 b).2.1) ∧ (∀ k, k < q.2.2 → (q.2.1 k).1 = q.1) ∧ .instantiable q.1 q.2.2 ∈ tblG ∧ .initialized q.1 ∈ tblG
theorem RepH.obj {H : Heap} (hR : RepH g T M sz H) {a ci : Nat} (hT : (T a).1 = ci) (hci : ci < 8) : ∃ (fs : List Value) (q : vw_C), vwCl[ci]? = some q ∧ va_at g.1 vwCl (a, .inr (ci, fs)) H ∧ fs.length = q.2.2 ∧ ∀ j, j < q.2.2 → (numT (fty ci j) = true → ∃ i : Int32, fs[j]? = some (.int i) ∧ i.toInt = M a j) ∧ (numT (fty ci j) = false → fs[j]? = some (va_rf ((T a).2.2 j))) := by
  obtain ⟨-, -, e, h1, h2⟩ := hR.2.2.2 a (by omega)
  match e, h1, h2 with
  | .inr (ci', fs), h1, ⟨k1, k2, q, k3, k4, k5⟩ =>
    have : ci' = ci := by rw [← k1, hT]
    subst this
    exact ⟨fs, q, k3, h1, k4, k5⟩
  | .inl (cA, n, .inl f), h1, ⟨h3, _⟩ => omega
  | .inl (cA, n, .inr (.inl f)), h1, ⟨h3, _⟩ => omega
  | .inl (cA, n, .inr (.inr (.inr (.inr f)))), h1, ⟨h3, _⟩ => omega
theorem RepH.ints {H : Heap} (hR : RepH g T M sz H) {a k : Nat} (hT : (T a).1 = k) (hk : k = 10 ∨ k = 12) : ∃ (cA : ClassId) (f : Nat → Int32), va_at g.1 vwCl (a, .inl (cA, (T a).2.1, .inl f)) H ∧ ((k = 10 ∧ cA = g.2.1 0) ∨ (k = 12 ∧ cA = g.2.1 2)) ∧ ∀ i, i < (T a).2.1 → (f i).toInt = M a i := by
  obtain ⟨-, -, e, h1, h2⟩ := hR.2.2.2 a (by omega)
  match e, h1, h2 with
  | .inr (ci', fs), h1, ⟨k1, k2, q, k3, k4, k5⟩ => omega
  | .inl (cA, n, .inl f), h1, ⟨h3, h4, h5⟩ => exact ⟨cA, f, by rw [h4]; exact h1, by rw [← hT]; exact h3, by rw [h4]; exact h5⟩
  | .inl (cA, n, .inr (.inl f)), h1, ⟨h3, _⟩ => omega
  | .inl (cA, n, .inr (.inr (.inr (.inr f)))), h1, ⟨h3, _⟩ => omega
theorem RepH.longs {H : Heap} (hR : RepH g T M sz H) {a : Nat} (hT : (T a).1 = 11) : ∃ (f : Nat → Int64), va_at g.1 vwCl (a, .inl (g.2.1 1, (T a).2.1, .inr (.inl f))) H ∧ ∀ i, i < (T a).2.1 → (f i).toInt = M a i := by
  obtain ⟨-, -, e, h1, h2⟩ := hR.2.2.2 a (by omega)
  match e, h1, h2 with
  | .inr (ci', fs), h1, ⟨k1, k2, q, k3, k4, k5⟩ => omega
  | .inl (cA, n, .inl f), h1, ⟨h3, h4, h5⟩ => omega
  | .inl (cA, n, .inr (.inl f)), h1, ⟨h3, h4, h5⟩ => exact ⟨f, by rw [h4, ← h3.2]; exact h1, by rw [h4]; exact h5⟩
  | .inl (cA, n, .inr (.inr (.inr (.inr f)))), h1, ⟨h3, _⟩ => omega
theorem RepH.refs {H : Heap} (hR : RepH g T M sz H) {a k : Nat} (hT : (T a).1 = k) (hk : 13 ≤ k ∧ k ≤ 16) : ∃ (cA : ClassId) (f : Nat → Option Nat), va_at g.1 vwCl (a, .inl (cA, (T a).2.1, .inr (.inr (.inr (.inr f))))) H ∧ cA = g.2.1 (k - 10) ∧ ∀ i, i < (T a).2.1 → f i = (T a).2.2 i := by
  obtain ⟨-, -, e, h1, h2⟩ := hR.2.2.2 a (by omega)
  match e, h1, h2 with
  | .inr (ci', fs), h1, ⟨k1, k2, q, k3, k4, k5⟩ => omega
  | .inl (cA, n, .inl f), h1, ⟨h3, h4, h5⟩ => omega
  | .inl (cA, n, .inr (.inl f)), h1, ⟨h3, h4, h5⟩ => omega
  | .inl (cA, n, .inr (.inr (.inr (.inr f)))), h1, ⟨h3, h4, h5⟩ =>
    refine ⟨cA, f, by rw [h4]; exact h1, ?_, by rw [h4]; exact h5⟩
    rw [hT] at h3
    rcases h3 with ⟨e1, e2⟩ | ⟨e1, e2⟩ | ⟨e1, e2⟩ | ⟨e1, e2⟩ <;> (subst e1; exact e2)
/-- one cell is written, the others stay -/
theorem RepH.put {H H' : Heap} (hR : RepH g T M sz H) {a : Nat} {T' : TT} {M' : MM} (ha : (T a).1 < 99) (hz : H'.size = H.size) (ho : ∀ q, q ≠ a → H'[q]? = H[q]?) (hT : ∀ b, b ≠ a → T' b = T b) (hM : ∀ b, b ≠ a → M' b = M b) {e : va_E} (h1 : va_at g.1 vwCl (a, e) H') (h2 : EAbs g.2.1 (T' a) (M' a) e) : RepH g T' M' sz H' := by
  obtain ⟨h3, h4, h5, h6⟩ := hR
  obtain ⟨k1, k2, -⟩ := h6 a ha
  refine ⟨by rw [hz, h3], h4, fun q hq => by rw [ho q (by omega)]; exact h5 q hq, fun b hb => ?_⟩
  by_cases e1 : b = a
  · subst e1
    exact ⟨k1, k2, e, h1, h2⟩
  · rw [hT b e1] at hb ⊢
    rw [hM b e1]
    obtain ⟨j1, j2, e2, j3, j4⟩ := h6 b hb
    exact ⟨j1, j2, e2, j3.kept (ho b e1), j4⟩
/-- a cell is new at the end -/
theorem RepH.grow {H H' : Heap} (hR : RepH g T M sz H) {T' : TT} {M' : MM} (hz : H'.size = sz + 1) (ho : ∀ q, q < sz → H'[q]? = H[q]?) (hT : ∀ b, b ≠ sz → T' b = T b) (hM : ∀ b, b ≠ sz → M' b = M b) {e : va_E} (h1 : va_at g.1 vwCl (sz, e) H') (h2 : EAbs g.2.1 (T' sz) (M' sz) e) : RepH g T' M' (sz + 1) H' := by
  obtain ⟨h3, h4, h5, h6⟩ := hR
  refine ⟨hz, by omega, fun q hq => by rw [ho q (by omega)]; exact h5 q hq, fun b hb => ?_⟩
  by_cases e1 : b = sz
  · subst e1
    exact ⟨h4, by omega, e, h1, h2⟩
  · rw [hT b e1] at hb ⊢
    rw [hM b e1]
    obtain ⟨j1, j2, e2, j3, j4⟩ := h6 b hb
    exact ⟨j1, by omega, e2, j3.kept (ho b j2), j4⟩
theorem va_one {D : va_G} {cl : List vw_C} {a : Nat} {e : va_E} {H : Heap} (h : va_at D cl (a, e) H) : va_P D cl [(a, e)] H := fun k q hk => by
  cases k with
  | zero => cases hk; exact h
  | succ k => simp at hk
theorem in_of {i : Int32} {a : Int} {n N : Nat} (h : i.toInt = a) (hn : a = (n : Int)) (hlt : n < N) : vp_in i N ∧ i.toNatClampNeg = n := by
  have h0 : i.toInt = (n : Int) := h.trans hn
  have h1 : i.toNatClampNeg = n := by
    show i.toInt.toNat = n
    rw [h0]; rfl
  refine ⟨fun q => ?_, h1⟩
  rcases q with q | q
  · have := Int32.lt_iff_toInt_lt.mp q
    rw [h0] at this
    have h9 : (0 : Int32).toInt = 0 := rfl
    omega
  · omega
theorem J_getI (h : OKx g x own cc d) {idx ci j a : Nat} (hF : FLk own idx ci j) (hC : CLok ci) (hd : decode cc pc = .ok (.getfield idx, 3)) (hT : (T a).1 = ci) (hci : ci < 8) (hn : numT (fty ci j) = true)
    (k : Jd g x (pc + 3) ls (vI (M a j) :: st) T M sz nc ns) : Jd g x pc ls (vR a :: st) T M sz nc ns := by
  obtain ⟨p, l, e, R, s, m, args, below, meth, c, Q⟩ := x
  obtain ⟨hx, hb, hown, hts, hK, -⟩ := h
  intro H locs cells slots lsC stC hR hlocs hl hs hc1 hc2
  obtain ⟨stC, rfl, hs9⟩ := st_R hs; replace hs := hs9; clear hs9
  obtain ⟨q, q1, q2, q3⟩ := hF
  obtain ⟨q', q1', q4, -⟩ := hC
  cases q1.symm.trans q1'
  obtain ⟨fs, q', q1', q5, q6, q7⟩ := hR.obj hT hci
  cases q1.symm.trans q1'
  obtain ⟨i, q8, q9⟩ := (q7 j q2).1 hn
  refine va_get (C := q.1) (T := q.2.1) (N := q.2.2) hx hb hts q4 hown hK.1 (va_one q5) 0 rfl q1 j q2 (hts _ q3) (fun _ h => h) q8 hd ?_
  exact k H locs cells slots lsC _ hR hlocs hl (by rw [List.map_cons, hs, ← q9]; rfl) hc1 hc2
theorem J_getN (h : OKx g x own cc d) {idx ci j a : Nat} {r : Option Nat} (hF : FLk own idx ci j) (hC : CLok ci) (hd : decode cc pc = .ok (.getfield idx, 3)) (hT : (T a).1 = ci) (hci : ci < 8) (hn : numT (fty ci j) = false) (hr : (T a).2.2 j = r)
    (k : Jd g x (pc + 3) ls (vrO r :: st) T M sz nc ns) : Jd g x pc ls (vR a :: st) T M sz nc ns := by
  subst hr
  obtain ⟨p, l, e, R, s, m, args, below, meth, c, Q⟩ := x
  obtain ⟨hx, hb, hown, hts, hK, -⟩ := h
  intro H locs cells slots lsC stC hR hlocs hl hs hc1 hc2
  obtain ⟨stC, rfl, hs9⟩ := st_R hs; replace hs := hs9; clear hs9
  obtain ⟨q, q1, q2, q3⟩ := hF
  obtain ⟨q', q1', q4, -⟩ := hC
  cases q1.symm.trans q1'
  obtain ⟨fs, q', q1', q5, q6, q7⟩ := hR.obj hT hci
  cases q1.symm.trans q1'
  refine va_get (C := q.1) (T := q.2.1) (N := q.2.2) hx hb hts q4 hown hK.1 (va_one q5) 0 rfl q1 j q2 (hts _ q3) (fun _ h => h) ((q7 j q2).2 hn) hd ?_
  exact k H locs cells slots lsC _ hR hlocs hl (by rw [List.map_cons, hs, vabs_rf]) hc1 hc2
theorem J_getR (h : OKx g x own cc d) {idx ci j a b : Nat} (hF : FLk own idx ci j) (hC : CLok ci) (hd : decode cc pc = .ok (.getfield idx, 3)) (hT : (T a).1 = ci) (hci : ci < 8) (hn : numT (fty ci j) = false) (hr : (T a).2.2 j = some b)
    (k : Jd g x (pc + 3) ls (vR b :: st) T M sz nc ns) : Jd g x pc ls (vR a :: st) T M sz nc ns := J_getN h hF hC hd hT hci hn hr k
theorem toInt_nar (i : Int32) (h : i.toInt = 0 ∨ i.toInt = 1) : i = 0 ∨ i = 1 := by
  rcases h with h | h
  · exact Or.inl (Int32.toInt_inj.mp h)
  · exact Or.inr (Int32.toInt_inj.mp h)
/-- a number into a field -/
theorem J_putI (h : OKx g x own cc d) {idx ci j a : Nat} {v : Int} (hF : FLk own idx ci j) (hC : CLok ci) (hd : decode cc pc = .ok (.putfield idx, 3)) (hT : (T a).1 = ci) (hci : ci < 8) (hn : numT (fty ci j) = true) (hb0 : fty ci j = .int ∨ v = 0 ∨ v = 1) (hfin : ∀ q : vw_C, vwCl[ci]? = some q → (q.2.1 j).2.2.2 = false)
    (k : Jd g x (pc + 3) ls st T (up2 M a j v) sz nc ns) : Jd g x pc ls (vI v :: vR a :: st) T M sz nc ns := by
  obtain ⟨p, l, e, R, s, m, args, below, meth, c, Q⟩ := x
  obtain ⟨hx, hb, hown, hts, hK, -⟩ := h
  intro H locs cells slots lsC stC hR hlocs hl hs hc1 hc2
  obtain ⟨i, stC, rfl, ei, hs⟩ := st_I hs
  obtain ⟨stC, rfl, hs9⟩ := st_R hs; replace hs := hs9; clear hs9
  obtain ⟨q, q1, q2, q3⟩ := hF
  obtain ⟨q', q1', q4, hty, hnm, hdc, -⟩ := hC
  cases q1.symm.trans q1'
  obtain ⟨fs, q', q1', q5, q6, q7⟩ := hR.obj hT hci
  cases q1.symm.trans q1'
  have hfit : narrow (fty ci j) (.int i) = .int i ∧ fits (fty ci j) (.int i) = true := by
    rcases hb0 with e | e
    · rw [e]; exact ⟨rfl, rfl⟩
    · cases hft : fty ci j with
      | int => exact ⟨rfl, rfl⟩
      | boolean =>
        rcases toInt_nar i (by rw [ei]; exact e) with rfl | rfl <;> exact ⟨rfl, rfl⟩
      | _ => rw [hft] at hn; cases hn
  have hap := va_apart (own := own) hts q4 (fty ci) hty hnm hK.1 q1
  obtain ⟨r, r1, cell, g1, g2, g3, g4⟩ := q5
  cases q1.symm.trans r1
  obtain ⟨hS, hfc, kC, hkC, hkind⟩ := hK.1.1 ci _ q1
  obtain ⟨cf, kf, fi, f, hi, hsl⟩ := hS j q2
  have hlay := hts _ (q4 _ (u_in_lay q2))
  unfold u_lay at hlay
  rw [if_neg (by rw [hfin q q1]; decide)] at hlay
  have hst := (u_facts hfc hkC (u_lays hts q4 q2) hi).1
  have h6 := u_store hfc hkC hkind hlay hi (hty j q2) hfit.1 hfit.2
  refine W.putK hx hb (f := f) ⟨hown, hts _ q3, ⟨_, _, _, hi⟩, hst⟩ (by rw [g2]; exact h6) g1 g3 (by rw [hsl]; exact k2_hasslot (g4 j q2)) rfl rfl hd fun H' e1 e2 e3 => ?_
  rw [hsl] at e1 ⊢
  refine k H' _ cells slots lsC _ (hR.put (a := a) (by omega) e2 e3 (fun b _ => rfl) (fun b hb => by funext z; simp [up2, hb]) (e := .inr (ci, fs.set j (.int i))) ⟨q, q1, t_OB.to (V := updV (vp_V fs) j (.int i)) ⟨_, e1, g2, g3, t_set g4 hap q2 (.int i)⟩ (fun z _ => vp_updV_set (by rw [q6]; exact q2) (.int i) z)⟩ ⟨hT, hci, q, q1, by rw [List.length_set, q6], fun z hz => ?_⟩) ?_ hl hs hc1 hc2
  · by_cases ez : z = j
    · subst ez
      refine ⟨fun _ => ⟨i, List.getElem?_set_self (by rw [q6]; exact q2), by simp [up2, ei]⟩, fun h0 => ?_⟩
      rw [hn] at h0; cases h0
    · rw [List.getElem?_set_ne (Ne.symm ez)]
      obtain ⟨w1, w2⟩ := q7 z hz
      refine ⟨fun h0 => ?_, w2⟩
      obtain ⟨i0, w3, w4⟩ := w1 h0
      exact ⟨i0, w3, by simp [up2, ez, w4]⟩
  · intro z hz
    rcases List.mem_append.mp hz with hz | hz
    · exact hlocs z hz
    · rw [List.mem_singleton.mp hz]
      exact (hR.2.2.2 a (by omega)).1
/-- a reference into a field that isn't final -/
theorem J_putR (h : OKx g x own cc d) {idx ci j a b : Nat} (hF : FLk own idx ci j) (hC : CLok ci) (hd : decode cc pc = .ok (.putfield idx, 3)) (hT : (T a).1 = ci) (hci : ci < 8) (hn : numT (fty ci j) = false) (hb0 : narrow (fty ci j) (.ref b) = .ref b ∧ fits (fty ci j) (.ref b) = true) (hfin : ∀ q : vw_C, vwCl[ci]? = some q → (q.2.1 j).2.2.2 = false)
    (k : Jd g x (pc + 3) ls st (upT T a j (some b)) M sz nc ns) : Jd g x pc ls (vR b :: vR a :: st) T M sz nc ns := by
  obtain ⟨p, l, e, R, s, m, args, below, meth, c, Q⟩ := x
  obtain ⟨hx, hb, hown, hts, hK, -⟩ := h
  intro H locs cells slots lsC stC hR hlocs hl hs hc1 hc2
  obtain ⟨stC, rfl, hs9⟩ := st_R hs; replace hs := hs9; clear hs9
  obtain ⟨stC, rfl, hs9⟩ := st_R hs; replace hs := hs9; clear hs9
  obtain ⟨q, q1, q2, q3⟩ := hF
  obtain ⟨q', q1', q4, hty, hnm, hdc, -⟩ := hC
  cases q1.symm.trans q1'
  obtain ⟨fs, q', q1', q5, q6, q7⟩ := hR.obj hT hci
  cases q1.symm.trans q1'
  have hap := va_apart (own := own) hts q4 (fty ci) hty hnm hK.1 q1
  obtain ⟨r, r1, cell, g1, g2, g3, g4⟩ := q5
  cases q1.symm.trans r1
  obtain ⟨hS, hfc, kC, hkC, hkind⟩ := hK.1.1 ci _ q1
  obtain ⟨cf, kf, fi, f, hi, hsl⟩ := hS j q2
  have hlay := hts _ (q4 _ (u_in_lay q2))
  unfold u_lay at hlay
  rw [if_neg (by rw [hfin q q1]; decide)] at hlay
  have hst := (u_facts hfc hkC (u_lays hts q4 q2) hi).1
  have h6 := u_store hfc hkC hkind hlay hi (hty j q2) hb0.1 hb0.2
  refine W.putK hx hb (f := f) ⟨hown, hts _ q3, ⟨_, _, _, hi⟩, hst⟩ (by rw [g2]; exact h6) g1 g3 (by rw [hsl]; exact k2_hasslot (g4 j q2)) rfl rfl hd fun H' e1 e2 e3 => ?_
  rw [hsl] at e1 ⊢
  refine k H' _ cells slots lsC _ (hR.put (a := a) (by omega) e2 e3 (fun b hb => by simp [upT, hb]) (fun b _ => rfl) (e := .inr (ci, fs.set j (.ref b))) ⟨q, q1, t_OB.to (V := updV (vp_V fs) j (.ref b)) ⟨_, e1, g2, g3, t_set g4 hap q2 (.ref b)⟩ (fun z _ => vp_updV_set (by rw [q6]; exact q2) (.ref b) z)⟩ ⟨by simp [upT, hT], hci, q, q1, by rw [List.length_set, q6], fun z hz => ?_⟩) ?_ hl hs hc1 hc2
  · by_cases ez : z = j
    · subst ez
      refine ⟨fun h0 => ?_, fun _ => ?_⟩
      · rw [hn] at h0; cases h0
      · rw [List.getElem?_set_self (by rw [q6]; exact q2)]
        simp [upT, va_rf]
    · rw [List.getElem?_set_ne (Ne.symm ez)]
      obtain ⟨w1, w2⟩ := q7 z hz
      refine ⟨w1, fun h0 => ?_⟩
      rw [w2 h0]
      simp [upT, ez]
  · intro z hz
    rcases List.mem_append.mp hz with hz | hz
    · exact hlocs z hz
    · rw [List.mem_singleton.mp hz]
      exact (hR.2.2.2 a (by omega)).1
theorem tys_at {aC : Nat → ClassId} {s : State} {D : va_G} (hK : va_K D vwCl (tysW aC) s) {t0 : Nat} {cA : ClassId} {ty : FieldType} (h : (tysW aC)[t0]? = some (cA, ty)) : ArrOfT s cA ty ∧ va_RA s cA ty := hK.2 t0 _ h
theorem J_iald (h : OKx g x own cc d) {a : Nat} {i : Int} (n : Nat) (hd : decode cc pc = .ok (.iaload, 1)) (hT : (T a).1 = 10) (hn : i = (n : Int)) (hlt : n < (T a).2.1)
    (k : Jd g x (pc + 1) ls (vI (M a n) :: st) T M sz nc ns) : Jd g x pc ls (vI i :: vR a :: st) T M sz nc ns := by
  obtain ⟨p, l, e, R, s, m, args, below, meth, c, Q⟩ := x
  obtain ⟨hx, hb, hown, hts, hK, -⟩ := h
  intro H locs cells slots lsC stC hR hlocs hl hs hc1 hc2
  obtain ⟨z, stC, rfl, ez, hs⟩ := st_I hs
  obtain ⟨stC, rfl, hs9⟩ := st_R hs; replace hs := hs9; clear hs9
  obtain ⟨cA, f, h1, h2, h3⟩ := hR.ints hT (Or.inl rfl)
  have hcA : cA = g.2.1 0 := h2.elim (fun q => q.2) (fun q => absurd q.1 (by decide))
  obtain ⟨hin, hcl⟩ := in_of ez hn hlt
  refine va_iald hx hb hK.1 (va_one h1) 0 0 rfl (by rw [hcA]; rfl) hin hd ?_
  exact k H locs cells slots lsC _ hR hlocs hl (by rw [List.map_cons, hs, hcl, ← h3 n hlt]; rfl) hc1 hc2
theorem J_zald (h : OKx g x own cc d) {a : Nat} {i : Int} (n : Nat) (hd : decode cc pc = .ok (.baload, 1)) (hT : (T a).1 = 12) (hn : i = (n : Int)) (hlt : n < (T a).2.1)
    (k : Jd g x (pc + 1) ls (vI (M a n) :: st) T M sz nc ns) : Jd g x pc ls (vI i :: vR a :: st) T M sz nc ns := by
  obtain ⟨p, l, e, R, s, m, args, below, meth, c, Q⟩ := x
  obtain ⟨hx, hb, hown, hts, hK, -⟩ := h
  intro H locs cells slots lsC stC hR hlocs hl hs hc1 hc2
  obtain ⟨z, stC, rfl, ez, hs⟩ := st_I hs
  obtain ⟨stC, rfl, hs9⟩ := st_R hs; replace hs := hs9; clear hs9
  obtain ⟨cA, f, h1, h2, h3⟩ := hR.ints hT (Or.inr rfl)
  have hcA : cA = g.2.1 2 := h2.elim (fun q => absurd q.1 (by decide)) (fun q => q.2)
  obtain ⟨hin, hcl⟩ := in_of ez hn hlt
  refine va_zald hx hb hK.1 (va_one h1) 0 2 rfl (by rw [hcA]; rfl) hin hd ?_
  exact k H locs cells slots lsC _ hR hlocs hl (by rw [List.map_cons, hs, hcl, ← h3 n hlt]; rfl) hc1 hc2
theorem J_lald (h : OKx g x own cc d) {a : Nat} {i : Int} (n : Nat) (hd : decode cc pc = .ok (.laload, 1)) (hT : (T a).1 = 11) (hn : i = (n : Int)) (hlt : n < (T a).2.1)
    (k : Jd g x (pc + 1) ls (vL (M a n) :: st) T M sz nc ns) : Jd g x pc ls (vI i :: vR a :: st) T M sz nc ns := by
  obtain ⟨p, l, e, R, s, m, args, below, meth, c, Q⟩ := x
  obtain ⟨hx, hb, hown, hts, hK, -⟩ := h
  intro H locs cells slots lsC stC hR hlocs hl hs hc1 hc2
  obtain ⟨z, stC, rfl, ez, hs⟩ := st_I hs
  obtain ⟨stC, rfl, hs9⟩ := st_R hs; replace hs := hs9; clear hs9
  obtain ⟨f, h1, h3⟩ := hR.longs hT
  obtain ⟨hin, hcl⟩ := in_of ez hn hlt
  refine va_lald hx hb hK.1 (va_one h1) 0 1 rfl rfl hin hd ?_
  exact k H locs cells slots lsC _ hR hlocs hl (by rw [List.map_cons, hs, hcl, ← h3 n hlt]; rfl) hc1 hc2
/-- a reference out of an array of arrays or objects -/
theorem J_aald (h : OKx g x own cc d) {a b kd : Nat} {i : Int} (n : Nat) (hd : decode cc pc = .ok (.aaload, 1)) (hT : (T a).1 = kd) (hkd : 13 ≤ kd ∧ kd ≤ 16) (hn : i = (n : Int)) (hlt : n < (T a).2.1) (hr : (T a).2.2 n = some b)
    (k : Jd g x (pc + 1) ls (vR b :: st) T M sz nc ns) : Jd g x pc ls (vI i :: vR a :: st) T M sz nc ns := by
  obtain ⟨p, l, e, R, s, m, args, below, meth, c, Q⟩ := x
  obtain ⟨hx, hb, hown, hts, hK, -⟩ := h
  intro H locs cells slots lsC stC hR hlocs hl hs hc1 hc2
  obtain ⟨z, stC, rfl, ez, hs⟩ := st_I hs
  obtain ⟨stC, rfl, hs9⟩ := st_R hs; replace hs := hs9; clear hs9
  obtain ⟨cA, f, h1, h2, h3⟩ := hR.refs hT hkd
  obtain ⟨hin, hcl⟩ := in_of ez hn hlt
  obtain ⟨ty, hty, harr⟩ : ∃ ty : FieldType, ty.isReference = true ∧ ArrOfT s cA ty := by
    have : kd = 13 ∨ kd = 14 ∨ kd = 15 ∨ kd = 16 := by omega
    rcases this with rfl | rfl | rfl | rfl <;> subst h2
    · exact ⟨.array .int, rfl, (tys_at hK.1 (t0 := 3) rfl).1⟩
    · exact ⟨.array .long, rfl, (tys_at hK.1 (t0 := 4) rfl).1⟩
    · exact ⟨.object RX3, rfl, (tys_at hK.1 (t0 := 5) rfl).1⟩
    · exact ⟨.object RX5, rfl, (tys_at hK.1 (t0 := 6) rfl).1⟩
  have e9 : f n = some b := (h3 n hlt).trans hr
  refine W.aald (v := va_rf (f z.toNatClampNeg)) (ty := ty) hx hb h1 (harr _ (fun j => va_rf (f j))) hty (fun q => by cases q) (by show ¬ (z < 0 ∨ (arrV _ _ _).slots.size ≤ _); rw [arrV_size]; exact hin) (by show (arrV _ _ _).slots[_]? = _; rw [arrV_read _ _ (by rw [hcl]; exact hlt)]) rfl rfl hd ?_
  exact k H locs cells slots lsC _ hR hlocs hl (by rw [List.map_cons, hs, hcl, e9]; rfl) hc1 hc2
theorem J_alen (h : OKx g x own cc d) {a : Nat} (hd : decode cc pc = .ok (.arraylength, 1)) (hT : (T a).1 = 10) (hlt : (T a).2.1 < 2 ^ 31)
    (k : Jd g x (pc + 1) ls (vI (((T a).2.1 : Nat) : Int) :: st) T M sz nc ns) : Jd g x pc ls (vR a :: st) T M sz nc ns := by
  obtain ⟨p, l, e, R, s, m, args, below, meth, c, Q⟩ := x
  obtain ⟨hx, hb, hown, hts, hK, -⟩ := h
  intro H locs cells slots lsC stC hR hlocs hl hs hc1 hc2
  obtain ⟨stC, rfl, hs9⟩ := st_R hs; replace hs := hs9; clear hs9
  obtain ⟨cA, f, h1, h2, h3⟩ := hR.ints hT (Or.inl rfl)
  have hcA : cA = g.2.1 0 := h2.elim (fun q => q.2) (fun q => absurd q.1 (by decide))
  refine va_alen hx hb hK.1 (va_one h1) 0 0 rfl (ty := .int) (by rw [hcA]; rfl) rfl hd ?_
  exact k H locs cells slots lsC _ hR hlocs hl (by rw [List.map_cons, hs]; show vI _ :: _ = _; rw [show (Int32.ofNat (T a).2.1).toInt = (((T a).2.1 : Nat) : Int) from nI_toInt hlt]) hc1 hc2
theorem locs_put {b0 : Nat} {locs : List Loc} (h : ∀ q ∈ locs, b0 ≤ q.base) {a i : Nat} (ha : b0 ≤ a) : ∀ q ∈ locs ++ [⟨a, i⟩], b0 ≤ q.base := by
  intro z hz
  rcases List.mem_append.mp hz with hz | hz
  · exact h z hz
  · rw [List.mem_singleton.mp hz]
    exact ha
theorem J_iast (h : OKx g x own cc d) {a : Nat} {i v : Int} (n : Nat) (hd : decode cc pc = .ok (.iastore, 1)) (hT : (T a).1 = 10) (hn : i = (n : Int)) (hlt : n < (T a).2.1)
    (k : Jd g x (pc + 1) ls st T (up2 M a n v) sz nc ns) : Jd g x pc ls (vI v :: vI i :: vR a :: st) T M sz nc ns := by
  obtain ⟨p, l, e, R, s, m, args, below, meth, c, Q⟩ := x
  obtain ⟨hx, hb, hown, hts, hK, -⟩ := h
  intro H locs cells slots lsC stC hR hlocs hl hs hc1 hc2
  obtain ⟨y, stC, rfl, ey, hs⟩ := st_I hs
  obtain ⟨z, stC, rfl, ez, hs⟩ := st_I hs
  obtain ⟨stC, rfl, hs9⟩ := st_R hs; replace hs := hs9; clear hs9
  obtain ⟨cA, f, h1, h2, h3⟩ := hR.ints hT (Or.inl rfl)
  have hcA : cA = g.2.1 0 := h2.elim (fun q => q.2) (fun q => absurd q.1 (by decide))
  obtain ⟨hin, hcl⟩ := in_of ez hn hlt
  refine W.iast hx hb h1 ((tys_at hK.1 (t0 := 0) (cA := cA) (ty := .int) (by rw [hcA]; rfl)).1 _ (fun j => .int (f j))) (fun q => by cases q) (by show ¬ (z < 0 ∨ (arrV _ _ _).slots.size ≤ _); rw [arrV_size]; exact hin) rfl rfl hd fun H1 e1 z1 oq => ?_
  rw [hcl] at e1 ⊢
  refine k H1 _ cells slots lsC _ (hR.put (a := a) (by omega) z1 oq (fun b _ => rfl) (fun b hb => by funext w; simp [up2, hb]) (e := .inl (cA, (T a).2.1, .inl (upd f n y))) ?_ ⟨by rw [hT, hcA]; exact Or.inl ⟨rfl, rfl⟩, rfl, fun w hw => ?_⟩) (locs_put hlocs (hR.2.2.2 a (by omega)).1) hl hs hc1 hc2
  · show H1[a]? = some (vp_cell _ _)
    rw [e1, vp_cell_i, vp_cell_i, arrV_store]
    congr 2
    funext w
    by_cases hw : w = n
    · subst hw
      simp [updV, upd]
    · simp [updV, upd, hw]
  · by_cases hw2 : w = n
    · subst hw2
      simp [upd, up2, ey]
    · simp [upd, up2, hw2, h3 w hw]
theorem J_zast (h : OKx g x own cc d) {a : Nat} {i v : Int} (n : Nat) (hd : decode cc pc = .ok (.bastore, 1)) (hT : (T a).1 = 12) (hn : i = (n : Int)) (hlt : n < (T a).2.1) (hv : v = 0 ∨ v = 1)
    (k : Jd g x (pc + 1) ls st T (up2 M a n v) sz nc ns) : Jd g x pc ls (vI v :: vI i :: vR a :: st) T M sz nc ns := by
  obtain ⟨p, l, e, R, s, m, args, below, meth, c, Q⟩ := x
  obtain ⟨hx, hb, hown, hts, hK, -⟩ := h
  intro H locs cells slots lsC stC hR hlocs hl hs hc1 hc2
  obtain ⟨y, stC, rfl, ey, hs⟩ := st_I hs
  obtain ⟨z, stC, rfl, ez, hs⟩ := st_I hs
  obtain ⟨stC, rfl, hs9⟩ := st_R hs; replace hs := hs9; clear hs9
  obtain ⟨cA, f, h1, h2, h3⟩ := hR.ints hT (Or.inr rfl)
  have hcA : cA = g.2.1 2 := h2.elim (fun q => absurd q.1 (by decide)) (fun q => q.2)
  obtain ⟨hin, hcl⟩ := in_of ez hn hlt
  have hnar : narrow .boolean (.int y) = .int y := by rcases toInt_nar y (by rw [ey]; exact hv) with rfl | rfl <;> rfl
  refine W.zast hx hb h1 ((tys_at hK.1 (t0 := 2) (cA := cA) (ty := .boolean) (by rw [hcA]; rfl)).1 _ (fun j => .int (f j))) (fun q => by cases q) (by show ¬ (z < 0 ∨ (arrV _ _ _).slots.size ≤ _); rw [arrV_size]; exact hin) rfl rfl hd fun H1 e1 z1 oq => ?_
  rw [hcl] at e1 ⊢
  rw [hnar] at e1
  refine k H1 _ cells slots lsC _ (hR.put (a := a) (by omega) z1 oq (fun b _ => rfl) (fun b hb => by funext w; simp [up2, hb]) (e := .inl (cA, (T a).2.1, .inl (upd f n y))) ?_ ⟨by rw [hT, hcA]; exact Or.inr ⟨rfl, rfl⟩, rfl, fun w hw => ?_⟩) (locs_put hlocs (hR.2.2.2 a (by omega)).1) hl hs hc1 hc2
  · show H1[a]? = some (vp_cell _ _)
    rw [e1, vp_cell_i, vp_cell_i, arrV_store]
    congr 2
    funext w
    by_cases hw : w = n
    · subst hw
      simp [updV, upd]
    · simp [updV, upd, hw]
  · by_cases hw2 : w = n
    · subst hw2
      simp [upd, up2, ey]
    · simp [upd, up2, hw2, h3 w hw]
theorem J_last (h : OKx g x own cc d) {a : Nat} {i v : Int} (n : Nat) (hd : decode cc pc = .ok (.lastore, 1)) (hT : (T a).1 = 11) (hn : i = (n : Int)) (hlt : n < (T a).2.1)
    (k : Jd g x (pc + 1) ls st T (up2 M a n v) sz nc ns) : Jd g x pc ls (vL v :: vI i :: vR a :: st) T M sz nc ns := by
  obtain ⟨p, l, e, R, s, m, args, below, meth, c, Q⟩ := x
  obtain ⟨hx, hb, hown, hts, hK, -⟩ := h
  intro H locs cells slots lsC stC hR hlocs hl hs hc1 hc2
  obtain ⟨y, stC, rfl, ey, hs⟩ := st_L hs
  obtain ⟨z, stC, rfl, ez, hs⟩ := st_I hs
  obtain ⟨stC, rfl, hs9⟩ := st_R hs; replace hs := hs9; clear hs9
  obtain ⟨f, h1, h3⟩ := hR.longs hT
  obtain ⟨hin, hcl⟩ := in_of ez hn hlt
  refine W.last hx hb h1 ((tys_at hK.1 (t0 := 1) rfl).1 _ (fun j => .long (f j))) (fun q => by cases q) (by show ¬ (z < 0 ∨ (arrV _ _ _).slots.size ≤ _); rw [arrV_size]; exact hin) rfl rfl hd fun H1 e1 z1 oq => ?_
  rw [hcl] at e1 ⊢
  refine k H1 _ cells slots lsC _ (hR.put (a := a) (by omega) z1 oq (fun b _ => rfl) (fun b hb => by funext w; simp [up2, hb]) (e := .inl (g.2.1 1, (T a).2.1, .inr (.inl (vp_updL f n y)))) ?_ ⟨⟨hT, rfl⟩, rfl, fun w hw => ?_⟩) (locs_put hlocs (hR.2.2.2 a (by omega)).1) hl hs hc1 hc2
  · show H1[a]? = some (vp_cell _ _)
    rw [e1, vp_cell_l, vp_cell_l, arrV_store]
    congr 2
    funext w
    by_cases hw : w = n
    · subst hw
      simp [updV, vp_updL]
    · simp [updV, vp_updL, hw]
  · by_cases hw2 : w = n
    · subst hw2
      simp [vp_updL, up2, ey]
    · simp [vp_updL, up2, hw2, h3 w hw]
-- returns
theorem J_iret (h : OKx g x own cc d) {Q : MVal → TT → MM → Nat → Prop} {v : Int} (hr : RTx g x (some .int) Q) (hd : decode cc pc = .ok (.ireturn, 1)) (hq : Q (vI v) T M sz) : Jd g x pc ls [vI v] T M sz nc ns := by
  obtain ⟨p, l, e, R, s, m, args, below, meth, c, Qr⟩ := x
  obtain ⟨hx, hb, hown, hts, hK, -⟩ := h
  obtain ⟨r1, r2, r3⟩ := hr
  dsimp only at r1 r2 r3
  subst r3
  intro H locs cells slots lsC stC hR hlocs hl hs hc1 hc2
  obtain ⟨z, stC, rfl, ez, hs⟩ := st_I hs
  cases List.map_eq_nil_iff.mp hs
  refine W.widen (k := R.cells) (n := R.slots) (Nat.le_trans (Nat.le_add_right _ _) hc1) (Nat.le_trans (Nat.le_add_right _ _) hc2) ?_
  exact W.iret hx hb r1 (fun t ht hW => ⟨_, T, M, sz, rfl, rfl, by rw [ht]; exact hR, by rw [← ez] at hq; exact hq⟩) hlocs hd r2
theorem J_zret (h : OKx g x own cc d) {Q : MVal → TT → MM → Nat → Prop} {v : Int} (hr : RTx g x (some .boolean) Q) (hd : decode cc pc = .ok (.ireturn, 1)) (hv : v = 0 ∨ v = 1) (hq : Q (vI v) T M sz) : Jd g x pc ls [vI v] T M sz nc ns := by
  obtain ⟨p, l, e, R, s, m, args, below, meth, c, Qr⟩ := x
  obtain ⟨hx, hb, hown, hts, hK, -⟩ := h
  obtain ⟨r1, r2, r3⟩ := hr
  dsimp only at r1 r2 r3
  subst r3
  intro H locs cells slots lsC stC hR hlocs hl hs hc1 hc2
  obtain ⟨z, stC, rfl, ez, hs⟩ := st_I hs
  cases List.map_eq_nil_iff.mp hs
  refine W.widen (k := R.cells) (n := R.slots) (Nat.le_trans (Nat.le_add_right _ _) hc1) (Nat.le_trans (Nat.le_add_right _ _) hc2) ?_
  exact W.zret hx hb r1 (by rcases toInt_nar z (by rw [ez]; exact hv) with rfl | rfl <;> rfl) (fun t ht hW => ⟨_, T, M, sz, rfl, rfl, by rw [ht]; exact hR, by rw [← ez] at hq; exact hq⟩) hlocs hd r2
theorem J_lret (h : OKx g x own cc d) {Q : MVal → TT → MM → Nat → Prop} {v : Int} (hr : RTx g x (some .long) Q) (hd : decode cc pc = .ok (.lreturn, 1)) (hq : Q (vL v) T M sz) : Jd g x pc ls [vL v] T M sz nc ns := by
  obtain ⟨p, l, e, R, s, m, args, below, meth, c, Qr⟩ := x
  obtain ⟨hx, hb, hown, hts, hK, -⟩ := h
  obtain ⟨r1, r2, r3⟩ := hr
  dsimp only at r1 r2 r3
  subst r3
  intro H locs cells slots lsC stC hR hlocs hl hs hc1 hc2
  obtain ⟨z, stC, rfl, ez, hs⟩ := st_L hs
  cases List.map_eq_nil_iff.mp hs
  refine W.widen (k := R.cells) (n := R.slots) (Nat.le_trans (Nat.le_add_right _ _) hc1) (Nat.le_trans (Nat.le_add_right _ _) hc2) ?_
  exact W.lret hx hb r1 (fun t ht hW => ⟨_, T, M, sz, rfl, rfl, by rw [ht]; exact hR, by rw [← ez] at hq; exact hq⟩) hlocs hd r2
theorem J_vret (h : OKx g x own cc d) {Q : MVal → TT → MM → Nat → Prop} (hr : RTx g x none Q) (hd : decode cc pc = .ok (.return_, 1)) (hq : Q vU T M sz) : Jd g x pc ls [] T M sz nc ns := by
  obtain ⟨p, l, e, R, s, m, args, below, meth, c, Qr⟩ := x
  obtain ⟨hx, hb, hown, hts, hK, -⟩ := h
  obtain ⟨r1, r2, r3⟩ := hr
  dsimp only at r1 r2 r3
  subst r3
  intro H locs cells slots lsC stC hR hlocs hl hs hc1 hc2
  cases List.map_eq_nil_iff.mp hs
  refine W.widen (k := R.cells) (n := R.slots) (Nat.le_trans (Nat.le_add_right _ _) hc1) (Nat.le_trans (Nat.le_add_right _ _) hc2) ?_
  exact W.vret hx hb r1 (fun t ht hW => ⟨_, T, M, sz, rfl, rfl, by rw [ht]; exact hR, hq⟩) hlocs hd r2
theorem J_aret (h : OKx g x own cc d) {Q : MVal → TT → MM → Nat → Prop} {C : String} {a : Nat} (hr : RTx g x (some (.object C)) Q) (hd : decode cc pc = .ok (.areturn, 1)) (hq : Q (vR a) T M sz) : Jd g x pc ls [vR a] T M sz nc ns := by
  obtain ⟨p, l, e, R, s, m, args, below, meth, c, Qr⟩ := x
  obtain ⟨hx, hb, hown, hts, hK, -⟩ := h
  obtain ⟨r1, r2, r3⟩ := hr
  dsimp only at r1 r2 r3
  subst r3
  intro H locs cells slots lsC stC hR hlocs hl hs hc1 hc2
  obtain ⟨stC, rfl, hs9⟩ := st_R hs; replace hs := hs9; clear hs9
  cases List.map_eq_nil_iff.mp hs
  refine W.widen (k := R.cells) (n := R.slots) (Nat.le_trans (Nat.le_add_right _ _) hc1) (Nat.le_trans (Nat.le_add_right _ _) hc2) ?_
  exact W.aret hx hb r1 (Or.inl ⟨C, rfl⟩) (Or.inr ⟨a, rfl⟩) (fun t ht hW => ⟨_, T, M, sz, rfl, rfl, by rw [ht]; exact hR, hq⟩) hlocs hd r2
end
