/-! THE CLAIM OUT OF ONE WALK OF THE LAW'S BODY. Your part is whole_start (and what it stands on); all else here is the same for every law, but numbers. -/
def R_law : String := "ThroughTheChainLaw"
def lw_P (b : Addr) (xs : List Int32) (args : Array Value) (s : State) : Prop := args = #[.ref b] ∧ s.IntsAt b xs ∧ xs.length ≤ 3072 ∧ (Jvm.Cond.and given_1 narrow_1).before args s = true
def lw_Q (_ : Array Value) (s : State) (o : Outcome) (t : State) : Prop := o = .returned (some (.int 1)) ∧ Framed s o t [] 600000 7302250
def lw_Z (below : List Frame) (a : Array Value) (s : State) : State → Prop := fun t => ∃ o, t.status = .running ∧ Ended t below o ∧ lw_Q a s o t
/-- the law's own end, with 1 on the stack, nothing written that was there before, its room as the claim has it -/
theorem lw_ret {p : Program} {l : Launch} {e : Env} {s : State} {m : MethodId} {below : List Frame} {meth : Method} {c : Code} {b : Nat} (hx : p.tables.exec = Jvm.exec) (hb : c.code = code) (hr : meth.sig.returnType = ret) (hlocks : meth.locks = false) {pc : Nat} {H : Heap} {ls : Array Slot} (hdg : decode code pc = .ok (.ireturn, 1)) : W p l e room_1 s m #[Value.ref b] below meth c H [] 600000 7302250 (lw_Z below #[Value.ref b] s) (F0 m pc ls [.int 1]) := by
  intro T hT X
  obtain ⟨fs, hret, hrun, hended, hW, hframe⟩ := X.leave (v := some (.int 1)) (hlocks := hlocks) (fun h => by rw [hr] at h; cases h)
  have hmeth' : T.vm.method? m = some meth := X.method'
  refine ⟨T.setFrames fs, ?_, .returned (some (.int 1)), hrun, hended, rfl, ⟨_, rfl⟩, hW, hframe⟩
  jvm_step X.here [X.here.top, hx, hb, hdg, hmeth', hr, ret, narrow_b1]
  (try refine ⟨rfl, ?_⟩); (try refine ⟨rfl, ?_⟩)
  first | (intro acts; rw [hret _ acts rfl rfl rfl]) | rw [hret _ _ rfl rfl rfl]
  exact Steps.refl _
/-- what holds at the law's entry: the machine, the code, the tables' words (any of lw_tbl by 'hts w (by decide +kernel)'), the script of L ints xs at the cell b, what the Statement gives of the start (any of its parts by flat_of_before) -/
def lw_At (p : Program) (s : State) (m : MethodId) (meth : Method) (c : Code) (b L : Nat) (xs : Nat → Int32) : Prop :=
  p.tables.exec = Jvm.exec ∧ c.code = code ∧ meth.sig.returnType = ret ∧ c.maxLocals = 4 ∧ s.vm.findClass R_law = some m.cls ∧ (∀ w ∈ lw_tbl, w.before #[Value.ref b] s = true) ∧ va_X b L xs s s.heap ∧ b < s.heap.size ∧ meth.locks = false ∧ (Jvm.Cond.and given_1 narrow_1).before #[Value.ref b] s = true
/-! what the start knows -/
def tmS (i : Nat) : Term := .string RX4 ([38, 47, 52, 57, 67, 71, 75].getD i 0)
abbrev gnC : Cond := Jvm.Cond.and given_1 narrow_1
theorem gs_ex : ∀ i : Fin 7, (Cond.exactly (tmS i.1) "java/lang/String") ∈ flatC gnC := by decide +kernel
theorem gs_co : ∀ i : Fin 7, (Cond.eq (.field (tmS i.1) "java/lang/String" "coder" "B") (.int 0)) ∈ flatC gnC := by decide +kernel
theorem gs_ar : ∀ i : Fin 7, (Cond.arrayOf (.field (tmS i.1) "java/lang/String" "value" "[B") .byte) ∈ flatC gnC := by decide +kernel
theorem gs_le : ∀ i : Fin 7, (Cond.eq (.length (.field (tmS i.1) "java/lang/String" "value" "[B")) (.int (Int32.ofNat (strL.getD i.1 0)))) ∈ flatC gnC := by decide +kernel
theorem gs_el : ∀ i : Fin 7, ∀ j : Fin 6, j.1 < strL.getD i.1 0 → (Cond.eq (.elem (.field (tmS i.1) "java/lang/String" "value" "[B") (.int (Int32.ofNat j.1))) (.int ((strB.getD i.1 []).getD j.1 0))) ∈ flatC gnC := by decide +kernel
theorem gs_ne : ∀ i : Fin 7, ∀ j : Fin 7, i ≠ j → (Cond.not (Cond.eq (tmS i.1) (tmS j.1))) ∈ flatC gnC ∨ (Cond.not (Cond.eq (tmS j.1) (tmS i.1))) ∈ flatC gnC := by decide +kernel
def tmA : Term := .static RX6 "ABOVE" "[I"
def abL : List Int32 := [-1, 0, 0, 1, 0, 2]
theorem ga_ar : (Cond.arrayOf tmA .int) ∈ flatC gnC := by decide +kernel
theorem ga_le : (Cond.eq (.length tmA) (.int (Int32.ofNat 6))) ∈ flatC gnC := by decide +kernel
theorem ga_el : ∀ j : Fin 6, (Cond.eq (.elem tmA (.int (Int32.ofNat j.1))) (.int (abL.getD j.1 0))) ∈ flatC gnC := by decide +kernel
theorem ab_v : ∀ j : Nat, j < 6 → (Value.int (abL.getD j 0)) = aboveV j := by
  intro j hj
  rcases (show j = 0 ∨ j = 1 ∨ j = 2 ∨ j = 3 ∨ j = 4 ∨ j = 5 by omega) with rfl | rfl | rfl | rfl | rfl | rfl <;> rfl
theorem gc_c : (Cond.eq (.static "java/lang/String" "COMPACT_STRINGS" "Z") (.int 1)) ∈ flatC gnC := by decide +kernel
theorem gp_q : (Cond.isRef (.static "jdk/internal/util/Preconditions" "SIOOBE_FORMATTER" "Ljava/util/function/BiFunction;")) ∈ flatC gnC := by decide +kernel
def strX : List (Nat × Nat × String) := [(222, 0, "one"), (231, 1, "tired"), (232, 3, "yards"), (236, 4, "spread"), (237, 5, "wrists"), (238, 6, "bell"), (239, 2, "run")]
theorem gx_eq : ∀ q ∈ strX, (Cond.eq (tmS q.2.1) (.string RX7 q.1)) ∈ flatC gnC := by decide +kernel
theorem strW_ref : ∀ q ∈ strW, (Cond.stringRef q.1 q.2.1 q.2.2.1) ∈ tables_1 := by decide +kernel
theorem strW_tm : ∀ q ∈ strW, q.2.2.2 < 7 ∧ (q.1 = RX4 ∧ tmS q.2.2.2 = .string q.1 q.2.1 ∨ q.1 = RX7 ∧ (q.2.1, q.2.2.2, q.2.2.1) ∈ strX) := by decide +kernel
theorem nest_in : ∀ w ∈ nestW, w ∈ tables_1 := by decide +kernel
theorem over_in : ∀ t ∈ overW, Cond.arrayOver t ∈ tables_1 := by decide +kernel
theorem ls_a : Cond.laysStatic RX6 "ABOVE" "[I" ∈ tables_1 := by decide +kernel
theorem ls_c : Cond.laysStatic "java/lang/String" "COMPACT_STRINGS" "Z" ∈ tables_1 := by decide +kernel
theorem ls_p : Cond.laysStatic "jdk/internal/util/Preconditions" "SIOOBE_FORMATTER" "Ljava/util/function/BiFunction;" ∈ tables_1 := by decide +kernel
theorem in_a : Cond.initialized RX6 ∈ tables_1 := by decide +kernel
theorem in_c : Cond.initialized "java/lang/String" ∈ tables_1 := by decide +kernel
theorem in_p : Cond.initialized "jdk/internal/util/Preconditions" ∈ tables_1 := by decide +kernel
theorem cl_all : ∀ ci : Nat, ci < 8 → CLok ci := by
  intro ci h
  rcases (show ci = 0 ∨ ci = 1 ∨ ci = 2 ∨ ci = 3 ∨ ci = 4 ∨ ci = 5 ∨ ci = 6 ∨ ci = 7 by omega) with rfl | rfl | rfl | rfl | rfl | rfl | rfl | rfl
  · exact cl_X0
  · exact cl_X1
  · exact cl_X2
  · exact cl_X3
  · exact cl_X4
  · exact cl_X5
  · exact cl_X6
  · exact cl_X7
theorem arr_i {A : Array Value} {s : State} (h : (Cond.arrayClass .int).before A s = true) : ∃ cA, ArrOfT s cA .int ∧ va_RA s cA .int := by
  obtain ⟨c, k, comp, h1, h2, h3⟩ := Cond.arrayClass_spec h
  exact ⟨c, fun n z => ⟨fun k h => (by cases h), k, h2, comp, h3⟩, h1⟩
theorem arr_l {A : Array Value} {s : State} (h : (Cond.arrayClass .long).before A s = true) : ∃ cA, ArrOfT s cA .long ∧ va_RA s cA .long := by
  obtain ⟨c, k, comp, h1, h2, h3⟩ := Cond.arrayClass_spec h
  exact ⟨c, fun n z => ⟨fun k h => (by cases h), k, h2, comp, h3⟩, h1⟩
theorem arr_z {A : Array Value} {s : State} (h : (Cond.arrayClass .boolean).before A s = true) : ∃ cA, ArrOfT s cA .boolean ∧ va_RA s cA .boolean := by
  obtain ⟨c, k, comp, h1, h2, h3⟩ := Cond.arrayClass_spec h
  exact ⟨c, fun n z => ⟨fun k h => (by cases h), k, h2, comp, h3⟩, h1⟩
theorem arr_a {A : Array Value} {s : State} {t : FieldType} (h : (Cond.arrayOver (.array t)).before A s = true) : ∃ cA, ArrOfT s cA (.array t) ∧ va_RA s cA (.array t) := by
  obtain ⟨comp, c, k, h1, h2, h3, h4⟩ := Cond.arrayOver_specA h
  exact ⟨c, fun n z => ⟨fun k h => (by cases h), k, h2, comp, h3⟩, h4⟩
theorem arr_o {A : Array Value} {s : State} {n : String} (h : (Cond.arrayOver (.object n)).before A s = true) : ∃ cA, ArrOfT s cA (.object n) ∧ va_RA s cA (.object n) := by
  obtain ⟨comp, c, k, h1, -, h3, h4, h5⟩ := Cond.arrayOver_spec h
  exact ⟨c, fun n z => ⟨fun k h => (by cases h), k, h3, comp, h4⟩, k, comp, h3, h4, h1, h5⟩
set_option maxHeartbeats 4000000 in
theorem k0_of {p : Program} {s : State} {m : MethodId} {meth : Method} {c : Code} {b L : Nat} {xs : Nat → Int32} (C0 : lw_At p s m meth c b L xs) : ∃ g : WG, g.2.2.1 = s.heap.size ∧ g.2.2.2.1 = s.heap ∧ K0 g s := by
  obtain ⟨-, -, -, -, -, hts, -, -, -, hgv⟩ := C0
  have hs := flat_of_before _ hgv
  have ht : ∀ w ∈ tables_1, w.before #[Value.ref b] s = true := fun w hw => hts w (List.mem_append_right _ hw)
  have hg : ∀ w ∈ tblG, w.before #[Value.ref b] s = true := fun w hw => hts w (List.mem_filter.mp hw).1
  have hA : ∀ a : Nat, a < s.heap.size → ¬ (fun q : Nat => s.heap.size ≤ q) a := fun a h => Nat.not_le.mpr h
  have hcl : ∀ ci : Nat, ∃ y : ClassId × (Nat → Nat), ∀ q, vwCl[ci]? = some q → u_Kn s q.1 q.2.1 q.2.2 y.1 y.2 := by
    intro ci
    by_cases hci : ci < 8
    · obtain ⟨q, hq, h1, -, -, -, h2, -⟩ := cl_all ci hci
      obtain ⟨cC, iS, hk⟩ := u_known (ws := tblG) hg h1 (hg _ h2)
      exact ⟨(cC, iS), fun q' hq' => by rw [hq] at hq'; cases hq'; exact hk⟩
    · refine ⟨(0, fun _ => 0), fun q hq => ?_⟩
      have h9 : ci < 8 := (List.getElem?_eq_some_iff.mp hq).1
      exact absurd h9 hci
  obtain ⟨y, hy⟩ := Classical.axiomOfChoice hcl
  obtain ⟨c0, a0⟩ := arr_i (hg _ ac_int)
  obtain ⟨c1, a1⟩ := arr_l (hg _ ac_long)
  obtain ⟨c2, a2⟩ := arr_z (hg _ ac_boolean)
  obtain ⟨c3, a3⟩ := arr_a (ht _ (over_in (.array .int) (by decide)))
  obtain ⟨c4, a4⟩ := arr_a (ht _ (over_in (.array .long) (by decide)))
  obtain ⟨c5, a5⟩ := arr_o (ht _ (over_in (.object RX3) (by decide)))
  obtain ⟨c6, a6⟩ := arr_o (ht _ (over_in (.object RX5) (by decide)))
  obtain ⟨adK, adV, hvS, hev⟩ := vk_Sof (args := #[Value.ref b]) (s := s) (N := 7) (tm := tmS) (len := strL) (byt := strB) (A := fun q : Nat => s.heap.size ≤ q)
    (fun i hi => by have h9 := (str_len ⟨i, hi⟩).2.2.1; have h8 : strL.getD i 0 ≤ 6 := h9; omega)
    (fun i hi => hs _ (gs_ex ⟨i, hi⟩)) (fun i hi => hs _ (gs_co ⟨i, hi⟩)) (fun i hi => hs _ (gs_ar ⟨i, hi⟩)) (fun i hi => hs _ (gs_le ⟨i, hi⟩))
    (fun i hi j hj => hs _ (gs_el ⟨i, hi⟩ ⟨j, by have h9 := (str_len ⟨i, hi⟩).2.2.1; have h8 : strL.getD i 0 ≤ 6 := h9; omega⟩ hj))
    (fun i j hi hj hne => (gs_ne ⟨i, hi⟩ ⟨j, hj⟩ (fun e => hne (congrArg Fin.val e))).imp (fun h => hs _ h) (fun h => hs _ h)) hA
  obtain ⟨t, htv, hT⟩ := va_Tof (args := #[Value.ref b]) (s := s) (tm := tmA) (ty := .int) (N := 6) (f := aboveV) (A := fun q : Nat => s.heap.size ≤ q) (by decide) (hs _ ga_ar) (va_eqt (hs _ ga_le)) (fun j hj => by rw [← ab_v j hj]; exact va_eqt (hs _ (ga_el ⟨j, hj⟩))) hA
  refine ⟨((fun k => (y k).1, fun k => (y k).2), (fun k => if k = 0 then c0 else if k = 1 then c1 else if k = 2 then c2 else if k = 3 then c3 else if k = 4 then c4 else if k = 5 then c5 else c6), s.heap.size, s.heap, adK, adV), rfl, rfl, ⟨hy, ?_⟩, fun w hw => ?_, fun t ht9 => ?_, ⟨t, va_Zref (ht _ ls_a) (ht _ in_a) htv hA, hT⟩, va_Zof (ht _ ls_c) (ht _ in_c) (va_eqt (hs _ gc_c)) hA, fun q hq => ?_, hvS, va_Zqof (ht _ ls_p) (ht _ in_p) (hs _ gp_q) hA⟩
  · intro k q hk
    match k, hk with
    | 0, hk => cases hk; exact a0
    | 1, hk => cases hk; exact a1
    | 2, hk => cases hk; exact a2
    | 3, hk => cases hk; exact a3
    | 4, hk => cases hk; exact a4
    | 5, hk => cases hk; exact a5
    | 6, hk => cases hk; exact a6
    | k + 7, hk => cases hk
  · have h9 := ht _ (nest_in w hw)
    simp only [nestW, List.mem_cons, List.not_mem_nil, or_false] at hw
    rcases hw with rfl | rfl | rfl | rfl | rfl <;> exact h9
  · exact ht _ (over_in t ht9)
  · obtain ⟨h1, h2⟩ := strW_tm q hq
    refine vk_R.of (A := #[Value.ref b]) (ht _ (strW_ref q hq)) ?_
    rcases h2 with ⟨-, h3⟩ | ⟨h3, h4⟩
    · rw [← h3]; exact hev _ h1
    · rw [h3]; exact va_eqR (hs _ (gx_eq _ h4)) (hev _ h1)
