/-! THE MACHINE SEEN FROM ABOVE: numbers are Int, the memory is a function of address and place, references lie apart. A judgement Jd goes over the kit's W. -/
-- values
abbrev MVal : Type := Int ⊕ (Int ⊕ (Nat ⊕ Bool))
def vI (x : Int) : MVal := .inl x
def vL (x : Int) : MVal := .inr (.inl x)
def vR (a : Nat) : MVal := .inr (.inr (.inl a))
def vN : MVal := .inr (.inr (.inr true))
def vU : MVal := .inr (.inr (.inr false))
def vabs : Value → MVal
  | .int v => vI v.toInt
  | .long v => vL v.toInt
  | .ref a => vR a
  | .null => vN
  | _ => vU
def vabsO : Option Value → MVal
  | none => vU
  | some v => vabs v
def vrO : Option Nat → MVal
  | none => vN
  | some a => vR a
theorem vabs_rf (r : Option Nat) : vabs (va_rf r) = vrO r := by cases r <;> rfl
theorem vabs_I {v : Value} {x : Int} (h : vabs v = vI x) : ∃ i : Int32, v = .int i ∧ i.toInt = x := by
  cases v with
  | int i => exact ⟨i, rfl, Sum.inl.inj h⟩
  | long i => cases h
  | float i => cases h
  | double i => cases h
  | null => cases h
  | ref i => cases h
  | retAddr i => cases h
theorem vabs_L {v : Value} {x : Int} (h : vabs v = vL x) : ∃ i : Int64, v = .long i ∧ i.toInt = x := by
  cases v with
  | int i => cases h
  | long i => exact ⟨i, rfl, Sum.inl.inj (Sum.inr.inj h)⟩
  | float i => cases h
  | double i => cases h
  | null => cases h
  | ref i => cases h
  | retAddr i => cases h
theorem vabs_R {v : Value} {x : Nat} (h : vabs v = vR x) : v = .ref x := by
  cases v with
  | int i => cases h
  | long i => cases h
  | float i => cases h
  | double i => cases h
  | null => cases h
  | ref i => exact congrArg Value.ref (Sum.inl.inj (Sum.inr.inj (Sum.inr.inj h)))
  | retAddr i => cases h
theorem vabs_N {v : Value} (h : vabs v = vN) : v = .null := by
  cases v with
  | int i => cases h
  | long i => cases h
  | float i => cases h
  | double i => cases h
  | null => rfl
  | ref i => cases h
  | retAddr i => cases h
/-- a value of one word -/
def vone : MVal → Bool
  | .inl _ => true
  | .inr (.inr (.inl _)) => true
  | .inr (.inr (.inr true)) => true
  | _ => false
theorem vone_cat {v : Value} {x : MVal} (h : vabs v = x) (hx : vone x = true) : v.category = 1 := by
  subst h
  cases v <;> first | rfl | cases hx
def vwd (x : MVal) : Nat := match x with
  | .inr (.inl _) => 2
  | .inr (.inr (.inr false)) => 2
  | _ => 1
theorem vwd_cat (v : Value) : v.category ≤ vwd (vabs v) := by cases v <;> exact Nat.le_of_ble_eq_true rfl
theorem vwd_sum : ∀ (l : List Value) (st : List MVal), l.map vabs = st → (l.map fun v => v.category).sum ≤ (st.map vwd).sum
  | [], st, h => by subst h; exact Nat.le_refl _
  | v :: l, st, h => by
    subst h
    have h1 := vwd_sum l _ rfl
    have h2 := vwd_cat v
    simp only [List.map_cons, List.sum_cons]
    omega
-- stacks
theorem st_cons {l : List Value} {x : MVal} {st : List MVal} (h : l.map vabs = x :: st) : ∃ v l', l = v :: l' ∧ vabs v = x ∧ l'.map vabs = st := by
  cases l with
  | nil => cases h
  | cons v l' => exact ⟨v, l', rfl, List.cons.inj h |>.1, List.cons.inj h |>.2⟩
theorem st_I {l : List Value} {x : Int} {st : List MVal} (h : l.map vabs = vI x :: st) : ∃ (i : Int32) (l' : List Value), l = .int i :: l' ∧ i.toInt = x ∧ l'.map vabs = st := by
  obtain ⟨v, l', rfl, h1, h2⟩ := st_cons h
  obtain ⟨i, rfl, h3⟩ := vabs_I h1
  exact ⟨i, l', rfl, h3, h2⟩
theorem st_L {l : List Value} {x : Int} {st : List MVal} (h : l.map vabs = vL x :: st) : ∃ (i : Int64) (l' : List Value), l = .long i :: l' ∧ i.toInt = x ∧ l'.map vabs = st := by
  obtain ⟨v, l', rfl, h1, h2⟩ := st_cons h
  obtain ⟨i, rfl, h3⟩ := vabs_L h1
  exact ⟨i, l', rfl, h3, h2⟩
theorem st_R {l : List Value} {x : Nat} {st : List MVal} (h : l.map vabs = vR x :: st) : ∃ (l' : List Value), l = .ref x :: l' ∧ l'.map vabs = st := by
  obtain ⟨v, l', rfl, h1, h2⟩ := st_cons h
  cases vabs_R h1
  exact ⟨l', rfl, h2⟩
theorem st_N {l : List Value} {st : List MVal} (h : l.map vabs = vN :: st) : ∃ (l' : List Value), l = .null :: l' ∧ l'.map vabs = st := by
  obtain ⟨v, l', rfl, h1, h2⟩ := st_cons h
  cases vabs_N h1
  exact ⟨l', rfl, h2⟩
-- the memory: of an address its kind (a class by its number, 10 on: an array), its length, its references; its numbers
abbrev TT : Type := Nat → Nat × Nat × (Nat → Option Nat)
abbrev MM : Type := Nat → Nat → Int
def up2 (M : MM) (a i : Nat) (v : Int) : MM := fun b j => if b = a ∧ j = i then v else M b j
def upT (T : TT) (a i : Nat) (v : Option Nat) : TT := fun b => if b = a then ((T a).1, (T a).2.1, fun j => if j = i then v else (T a).2.2 j) else T b
/-- a new cell: its numbers are 0, its references null -/
def newT (T : TT) (a k n : Nat) : TT := fun b => if b = a then (k, n, fun _ => none) else T b
def newM (M : MM) (a : Nat) : MM := fun b j => if b = a then 0 else M b j
abbrev WG : Type := va_G × (Nat → ClassId) × Nat × Heap × (Nat → Nat) × (Nat → Nat)
def fty (ci : Nat) : Nat → FieldType := match ci with
  | 0 => tyX0
  | 1 => tyX1
  | 2 => tyX2
  | 3 => tyX3
  | 4 => tyX4
  | 5 => tyX5
  | 6 => tyX6
  | _ => tyX7
def numT (t : FieldType) : Bool := match t with
  | .int => true
  | .boolean => true
  | _ => false
def tysW (aC : Nat → ClassId) : List (ClassId × FieldType) := [(aC 0, .int), (aC 1, .long), (aC 2, .boolean), (aC 3, .array .int), (aC 4, .array .long), (aC 5, .object RX3), (aC 6, .object RX5)]
def EAbs (aC : Nat → ClassId) (t : Nat × Nat × (Nat → Option Nat)) (mr : Nat → Int) (e : va_E) : Prop := match e with
  | .inr (ci, fs) => t.1 = ci ∧ ci < 8 ∧ (∃ q : vw_C, vwCl[ci]? = some q ∧ fs.length = q.2.2 ∧ ∀ j, j < q.2.2 → (numT (fty ci j) = true → ∃ i : Int32, fs[j]? = some (.int i) ∧ i.toInt = mr j) ∧ (numT (fty ci j) = false → fs[j]? = some (va_rf (t.2.2 j))))
  | .inl (cA, n, .inl f) => ((t.1 = 10 ∧ cA = aC 0) ∨ (t.1 = 12 ∧ cA = aC 2)) ∧ t.2.1 = n ∧ ∀ i, i < n → (f i).toInt = mr i
  | .inl (cA, n, .inr (.inl f)) => (t.1 = 11 ∧ cA = aC 1) ∧ t.2.1 = n ∧ ∀ i, i < n → (f i).toInt = mr i
  | .inl (cA, n, .inr (.inr (.inr (.inr f)))) => ((t.1 = 13 ∧ cA = aC 3) ∨ (t.1 = 14 ∧ cA = aC 4) ∨ (t.1 = 15 ∧ cA = aC 5) ∨ (t.1 = 16 ∧ cA = aC 6)) ∧ t.2.1 = n ∧ ∀ i, i < n → f i = t.2.2 i
  | _ => False
def RepH (g : WG) (T : TT) (M : MM) (sz : Nat) (H : Heap) : Prop :=
  H.size = sz ∧ g.2.2.1 ≤ sz ∧ (∀ q, q < g.2.2.1 → H[q]? = g.2.2.2.1[q]?) ∧ ∀ a, (T a).1 < 99 → g.2.2.1 ≤ a ∧ a < sz ∧ ∃ e : va_E, va_at g.1 vwCl (a, e) H ∧ EAbs g.2.1 (T a) (M a) e
/-- what holds of the tables, and of what lies below the world -/
def tblG : List Cond := lw_tbl.filter goodWord
theorem inG {w : Cond} (h : w ∈ tables_1) (hg : goodWord w = true) : w ∈ tblG := List.mem_filter.mpr ⟨List.mem_append_right _ h, hg⟩
theorem inGs {w : Cond} (h : w ∈ lw_tbl) (hg : goodWord w = true) : w ∈ tblG := List.mem_filter.mpr ⟨h, hg⟩
theorem tblG_good : GoodIn tblG tblG := fun w h => ⟨h, good_of_word (List.mem_filter.mp h).2⟩
def aboveV (j : Nat) : Value := .int (if j = 0 then -1 else if j = 1 then 0 else if j = 2 then 0 else if j = 3 then 1 else if j = 4 then 0 else 2)
def strL : List Nat := [3, 5, 3, 5, 6, 6, 4]
def strB : List (List Int32) := [[111, 110, 101], [116, 105, 114, 101, 100], [114, 117, 110], [121, 97, 114, 100, 115], [115, 112, 114, 101, 97, 100], [119, 114, 105, 115, 116, 115], [98, 101, 108, 108]]
def AW (g : WG) : Nat → Prop := fun q => g.2.2.1 ≤ q
def yardInit : MethodName := ⟨RX5, "<init>", "()V"⟩
def nestW : List Cond := [.methodLinkNest RX6 9 yX5_init RX6, .methodLinkNest RX0 17 yX5_init RX6, .methodLinkNest RX6 40 yX1_init RX6, .methodLinkNest RX6 47 yX4_init RX6, .methodLinkNest RX6 62 yX3_init RX6]
def overW : List FieldType := [.array .int, .array .long, .object RX3, .object RX5]
def strW : List (String × Nat × String × Nat) := [(RX4, 38, "one", 0), (RX4, 47, "tired", 1), (RX4, 52, "run", 2), (RX4, 57, "yards", 3), (RX4, 67, "spread", 4), (RX4, 71, "wrists", 5), (RX4, 75, "bell", 6), (RX7, 222, "one", 0), (RX7, 231, "tired", 1), (RX7, 232, "yards", 3), (RX7, 236, "spread", 4), (RX7, 237, "wrists", 5), (RX7, 238, "bell", 6), (RX7, 239, "run", 2)]
def K0 (g : WG) (U : State) : Prop :=
  va_K g.1 vwCl (tysW g.2.1) U ∧ (∀ w ∈ nestW, va_Nw w U) ∧ (∀ t ∈ overW, va_Nw (.arrayOver t) U) ∧
  (∃ t, va_Z RX6 "ABOVE" "[I" (.ref t) (AW g) U g.2.2.2.1 ∧ va_T .int t 6 aboveV (AW g) U g.2.2.2.1) ∧
  va_Z "java/lang/String" "COMPACT_STRINGS" "Z" (.int 1) (AW g) U g.2.2.2.1 ∧
  (∀ q ∈ strW, vk_R q.1 q.2.1 q.2.2.1 (g.2.2.2.2.1 q.2.2.2) U) ∧ vk_S 7 strL strB g.2.2.2.2.1 g.2.2.2.2.2 (AW g) U g.2.2.2.1 ∧
  va_Zq "jdk/internal/util/Preconditions" "SIOOBE_FORMATTER" "Ljava/util/function/BiFunction;" (AW g) U g.2.2.2.1
theorem nw_nest {w : Cond} (hw : w ∈ nestW) {s U : State} (hW : s.WarmedH U.vm) (h : va_Nw w s) : va_Nw w U := by
  simp only [nestW, List.mem_cons, List.not_mem_nil, or_false] at hw
  rcases hw with rfl | rfl | rfl | rfl | rfl <;> exact va_Nw.warmM hW h
theorem nw_nestS {w : Cond} (hw : w ∈ nestW) {s U : State} (hv : s.vm = U.vm) (h : va_Nw w s) : va_Nw w U := by
  simp only [nestW, List.mem_cons, List.not_mem_nil, or_false] at hw
  rcases hw with rfl | rfl | rfl | rfl | rfl <;> exact va_Nw.same rfl hv h
theorem nw_over {t : FieldType} {s U : State} (hv : s.vm.Alike U.vm) (h : va_Nw (.arrayOver t) s) : va_Nw (.arrayOver t) U := by
  have h1 : (Cond.arrayOver t).before #[] (s.setVm U.vm) = true := by rw [Cond.arrayOver_setVmC hv]; exact h
  exact h1
theorem K0.warm {g : WG} {s U : State} (hW : s.WarmedH U.vm) (h : K0 g s) : K0 g U := by
  obtain ⟨h1, h2, h3, ⟨t, h4, h5⟩, h6, h7, h8, h9⟩ := h
  exact ⟨h1.moved hW.alike, fun w hw => nw_nest hw hW (h2 w hw), fun t ht => nw_over hW.alike (h3 t ht), ⟨t, h4.moved hW.alike, h5.moved hW.alike⟩, h6.moved hW.alike, fun q hq => (h7 q hq).warm hW, h8.moved hW.alike, h9.moved hW.alike⟩
theorem K0.same {g : WG} {s U : State} (hv : s.vm = U.vm) (h : K0 g s) : K0 g U := by
  have ha : s.vm.Alike U.vm := by rw [hv]; exact Vm.Alike.refl _
  obtain ⟨h1, h2, h3, ⟨t, h4, h5⟩, h6, h7, h8, h9⟩ := h
  exact ⟨h1.moved ha, fun w hw => nw_nestS hw hv (h2 w hw), fun t ht => nw_over ha (h3 t ht), ⟨t, h4.moved ha, h5.moved ha⟩, h6.moved ha, fun q hq => (h7 q hq).same hv.symm, h8.moved ha, h9.moved ha⟩
-- locals, by place; a long has vU behind it
def LRep (nL : Nat) (lsC : Array Slot) (ls : List MVal) : Prop := lsC.size = ls.length ∧ lsC.size = nL ∧ lv_wf lsC ∧ ∀ (i : Nat) (x : MVal), ls[i]? = some x → x ≠ vU → ∃ v, lsC[i]? = some (.val v) ∧ vabs v = x
theorem LRep.I {nL : Nat} {lsC : Array Slot} {ls : List MVal} (h : LRep nL lsC ls) {i : Nat} {a : Int} (hi : ls[i]? = some (vI a)) : ∃ x : Int32, lsC[i]? = some (.val (.int x)) ∧ x.toInt = a := by
  obtain ⟨v, h1, h2⟩ := h.2.2.2 i _ hi (fun e => by cases e)
  obtain ⟨x, rfl, h3⟩ := vabs_I h2
  exact ⟨x, h1, h3⟩
theorem LRep.L {nL : Nat} {lsC : Array Slot} {ls : List MVal} (h : LRep nL lsC ls) {i : Nat} {a : Int} (hi : ls[i]? = some (vL a)) : ∃ x : Int64, lsC[i]? = some (.val (.long x)) ∧ x.toInt = a := by
  obtain ⟨v, h1, h2⟩ := h.2.2.2 i _ hi (fun e => by cases e)
  obtain ⟨x, rfl, h3⟩ := vabs_L h2
  exact ⟨x, h1, h3⟩
theorem LRep.R {nL : Nat} {lsC : Array Slot} {ls : List MVal} (h : LRep nL lsC ls) {i : Nat} {a : Nat} (hi : ls[i]? = some (vR a)) : lsC[i]? = some (.val (.ref a)) := by
  obtain ⟨v, h1, h2⟩ := h.2.2.2 i _ hi (fun e => by cases e)
  cases vabs_R h2
  exact h1
def lvOf (lsC : Array Slot) : List (Nat × Value) := (List.range lsC.size).filterMap (fun (i : Nat) => match lsC[i]? with | some (Slot.val v) => some (i, v) | _ => none)
theorem lvOf_mem {lsC : Array Slot} {i : Nat} {v : Value} : (i, v) ∈ lvOf lsC ↔ lsC[i]? = some (.val v) := by
  unfold lvOf
  rw [List.mem_filterMap]
  constructor
  · rintro ⟨j, hj, h⟩
    cases hx : lsC[j]? with
    | none => rw [hx] at h; cases h
    | some z =>
      rw [hx] at h
      cases z with
      | val w => cases h; exact hx
      | unset => cases h
      | second => cases h
  · intro h
    refine ⟨i, List.mem_range.mpr (Array.getElem?_eq_some_iff.mp h).1, ?_⟩
    rw [h]
theorem lvOf_has {nL : Nat} {lsC : Array Slot} {ls : List MVal} (h : LRep nL lsC ls) : lv_has lsC nL (lvOf lsC) := ⟨h.2.1, h.2.2.1, fun q hq => lvOf_mem.mp hq⟩
def noL (ls : List MVal) (i : Nat) : Bool := match i with
  | 0 => true
  | k + 1 => match ls[k]? with
    | some (.inr (.inl _)) => false
    | _ => true
theorem LRep.set1 {nL : Nat} {lsC ls' : Array Slot} {ls lsn : List MVal} {i : Nat} {v : Value} {x : MVal} (h : LRep nL lsC ls) (hn : noL ls i = true) (hx : vabs v = x) (hls : ls.set i x = lsn)
    (h' : lv_has ls' nL ((i, v) :: (lvOf lsC).filter (fun q => !(q.1 == i) && !(q.1 + 1 == i && q.2.category == 2)))) : LRep nL ls' lsn := by
  subst hls
  refine ⟨by rw [h'.1, List.length_set, ← h.1, h.2.1], h'.1, h'.2.1, fun j y hj hy => ?_⟩
  by_cases e : j = i
  · subst e
    have hl : j < ls.length := by
      have := (List.getElem?_eq_some_iff.mp hj).1
      rw [List.length_set] at this
      exact this
    rw [List.getElem?_set_self hl] at hj
    cases hj
    exact ⟨v, h'.2.2 (j, v) List.mem_cons_self, hx⟩
  · rw [List.getElem?_set_ne (Ne.symm e)] at hj
    obtain ⟨w, h1, h2⟩ := h.2.2.2 j y hj hy
    refine ⟨w, h'.2.2 (j, w) (List.mem_cons_of_mem _ (List.mem_filter.mpr ⟨lvOf_mem.mpr h1, ?_⟩)), h2⟩
    have e1 : (j == i) = false := beq_eq_false_iff_ne.mpr e
    by_cases e2 : j + 1 = i
    · subst e2
      have : (w.category == 2) = false := by
        subst h2
        cases w with
        | long z => simp [noL, hj, vabs, vL] at hn
        | double z => exact absurd rfl hy
        | _ => rfl
      simp [this]
    · have e3 : (j + 1 == i) = false := beq_eq_false_iff_ne.mpr e2
      simp [e1, e3]
theorem LRep.set2 {nL : Nat} {lsC ls' : Array Slot} {ls lsn : List MVal} {i : Nat} {v : Value} {x : MVal} (h : LRep nL lsC ls) (hn : noL ls i = true) (hx : vabs v = x) (hls : (ls.set i x).set (i + 1) vU = lsn)
    (h' : lv_has ls' nL ((i, v) :: (lvOf lsC).filter (fun q => !(q.1 == i) && (!(q.1 == i + 1) && !(q.1 + 1 == i && q.2.category == 2))))) : LRep nL ls' lsn := by
  subst hls
  refine ⟨by rw [h'.1, List.length_set, List.length_set, ← h.1, h.2.1], h'.1, h'.2.1, fun j y hj hy => ?_⟩
  by_cases e0 : j = i + 1
  · subst e0
    have hl : i + 1 < (ls.set i x).length := by
      have := (List.getElem?_eq_some_iff.mp hj).1
      rw [List.length_set] at this
      exact this
    rw [List.getElem?_set_self hl] at hj
    cases hj
    exact absurd rfl hy
  · rw [List.getElem?_set_ne (Ne.symm e0)] at hj
    by_cases e : j = i
    · subst e
      have hl : j < ls.length := by
        have := (List.getElem?_eq_some_iff.mp hj).1
        rw [List.length_set] at this
        exact this
      rw [List.getElem?_set_self hl] at hj
      cases hj
      exact ⟨v, h'.2.2 (j, v) List.mem_cons_self, hx⟩
    · rw [List.getElem?_set_ne (Ne.symm e)] at hj
      obtain ⟨w, h1, h2⟩ := h.2.2.2 j y hj hy
      refine ⟨w, h'.2.2 (j, w) (List.mem_cons_of_mem _ (List.mem_filter.mpr ⟨lvOf_mem.mpr h1, ?_⟩)), h2⟩
      have e1 : (j == i) = false := beq_eq_false_iff_ne.mpr e
      have e4 : (j == i + 1) = false := beq_eq_false_iff_ne.mpr e0
      by_cases e2 : j + 1 = i
      · subst e2
        have : (w.category == 2) = false := by
          subst h2
          cases w with
          | long z => simp [noL, hj, vabs, vL] at hn
          | double z => exact absurd rfl hy
          | _ => rfl
        simp only [this, Bool.and_false, Bool.not_false, Bool.and_true, e4, e1]
      · have e3 : (j + 1 == i) = false := beq_eq_false_iff_ne.mpr e2
        simp only [e3, Bool.false_and, Bool.not_false, Bool.and_true, e4, e1]
-- the context of a body, and the judgement
abbrev CX : Type := Program × Launch × Env × Room × State × MethodId × Array Value × List Frame × Method × Code × (State → Prop)
def Jd (g : WG) (x : CX) (pc : Nat) (ls st : List MVal) (T : TT) (M : MM) (sz nc ns : Nat) : Prop :=
  ∀ (H : Heap) (locs : List Loc) (cells slots : Nat) (lsC : Array Slot) (stC : List Value), RepH g T M sz H → (∀ q ∈ locs, g.2.2.1 ≤ q.base) → LRep x.2.2.2.2.2.2.2.2.2.1.maxLocals lsC ls → stC.map vabs = st →
    cells + nc ≤ x.2.2.2.1.cells → slots + ns ≤ x.2.2.2.1.slots →
    W x.1 x.2.1 x.2.2.1 x.2.2.2.1 x.2.2.2.2.1 x.2.2.2.2.2.1 x.2.2.2.2.2.2.1 x.2.2.2.2.2.2.2.1 x.2.2.2.2.2.2.2.2.1 x.2.2.2.2.2.2.2.2.2.1 H locs cells slots x.2.2.2.2.2.2.2.2.2.2 (F0 x.2.2.2.2.2.1 pc lsC stC)
/-- the machine runs the bytes cc of a method of own; the tables' words; d levels of calls are left -/
def OKx (g : WG) (x : CX) (own : String) (cc : ByteArray) (d : Nat) : Prop :=
  x.1.tables.exec = Jvm.exec ∧ x.2.2.2.2.2.2.2.2.2.1.code = cc ∧ x.2.2.2.2.1.vm.findClass own = some x.2.2.2.2.2.1.cls ∧ (∀ w ∈ tblG, w.before x.2.2.2.2.2.2.1 x.2.2.2.2.1 = true) ∧ K0 g x.2.2.2.2.1 ∧ x.2.2.2.1.frames = d ∧ x.2.2.2.1.locals = 40 * d
def QcOf (g : WG) (b : Bool) (Q : MVal → TT → MM → Nat → Prop) : Array Value → State → Outcome → State → Prop := fun _ _ o t => ∃ (v : Option Value) (T : TT) (M : MM) (sz : Nat), o = .returned v ∧ v.isSome = b ∧ RepH g T M sz t.heap ∧ Q (vabsO v) T M sz
def RTx (g : WG) (x : CX) (ret : Option FieldType) (Q : MVal → TT → MM → Nat → Prop) : Prop :=
  x.2.2.2.2.2.2.2.2.1.sig.returnType = ret ∧ x.2.2.2.2.2.2.2.2.1.locks = false ∧ x.2.2.2.2.2.2.2.2.2.2 = MQ x.2.2.2.2.2.2.2.1 (QcOf g ret.isSome Q) x.2.2.2.2.2.2.1 x.2.2.2.2.1 x.2.2.2.1.cells x.2.2.2.1.slots (fun q => g.2.2.1 ≤ q)
