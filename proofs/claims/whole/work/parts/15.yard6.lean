theorem WFY.perm {A : YA} (h : WFY A) {c : Nat} {l : List Nat} (hc : c < 2) (hl : l.Perm (A.ch c)) : WFY (A.setC c l) := by
  have hm : ∀ c' q, q ∈ (A.setC c l).ch c' ↔ q ∈ A.ch c' := fun c' q => by
    by_cases e : c' = c
    · subst e; rw [A.ch_same]; exact hl.mem_iff
    · rw [A.ch_ne _ e]
  have hlen : ∀ c', ((A.setC c l).ch c').length = (A.ch c').length := fun c' => by
    by_cases e : c' = c
    · subst e; rw [A.ch_same]; exact hl.length_eq
    · rw [A.ch_ne _ e]
  refine h.of rfl (fun p hp => ⟨fun _ _ _ => rfl, h.ti hp⟩) (fun c' hc' p hp => h.lt hc' ((hm c' p).mp hp)) (fun p hp => (h.cov hp).imp (hm 0 p).mpr (hm 1 p).mpr) (fun c' hc' => ?_) (fun p hp q => h.dj ((hm 0 p).mp hp) ((hm 1 p).mp q)) (by rw [hlen, hlen]; exact h.len) ⟨rfl, rfl, rfl, rfl, h.s5, h.s6, h.s7⟩
  by_cases e : c' = c
  · subst e; rw [A.ch_same]; exact hl.nodup_iff.mpr (h.nd hc')
  · rw [A.ch_ne _ e]; exact h.nd hc'
def swpL (l : List Nat) (k : Nat) : List Nat := (l.set k (l.getD (k + 1) 0)).set (k + 1) (l.getD k 0)
theorem swpL_len (l : List Nat) (k : Nat) : (swpL l k).length = l.length := by simp [swpL]
theorem swpL_getD {l : List Nat} {k : Nat} (hk : k + 1 < l.length) (j : Nat) : (swpL l k).getD j 0 = if j = k then l.getD (k + 1) 0 else if j = k + 1 then l.getD k 0 else l.getD j 0 := by
  unfold swpL
  simp only [List.getD_eq_getElem?_getD]
  by_cases h1 : j = k
  · subst h1
    rw [if_pos rfl, List.getElem?_set_ne (by omega), List.getElem?_set_self (by omega)]; rfl
  · rw [if_neg h1]
    by_cases h2 : j = k + 1
    · subst h2
      rw [if_pos rfl, List.getElem?_set_self (by rw [List.length_set]; omega)]; rfl
    · rw [if_neg h2, List.getElem?_set_ne (by omega), List.getElem?_set_ne (by omega)]
theorem swpL_perm {l : List Nat} {k : Nat} (hk : k + 1 < l.length) : (swpL l k).Perm l := by
  have e : l = l.take k ++ l.getD k 0 :: l.getD (k + 1) 0 :: l.drop (k + 2) := by
    conv => lhs; rw [← List.take_append_drop k l]
    congr 1
    rw [List.drop_eq_getElem_cons (by omega), List.drop_eq_getElem_cons hk]
    simp [List.getD_eq_getElem?_getD, List.getElem?_eq_getElem (show k < l.length by omega), List.getElem?_eq_getElem hk]
  have e2 : swpL l k = l.take k ++ l.getD (k + 1) 0 :: l.getD k 0 :: l.drop (k + 2) := by
    apply List.ext_getElem?
    intro j
    have hl : (l.take k).length = k := by rw [List.length_take]; omega
    unfold swpL
    by_cases h1 : j < k
    · rw [List.getElem?_set_ne (by omega), List.getElem?_set_ne (by omega), List.getElem?_append_left (by omega), List.getElem?_take_of_lt h1]
    · rw [List.getElem?_append_right (by omega), hl]
      by_cases h2 : j = k
      · subst h2
        rw [List.getElem?_set_ne (by omega), List.getElem?_set_self (by omega), Nat.sub_self]; rfl
      · by_cases h3 : j = k + 1
        · subst h3
          rw [List.getElem?_set_self (by rw [List.length_set]; omega), show k + 1 - k = 1 by omega]; rfl
        · rw [List.getElem?_set_ne (by omega), List.getElem?_set_ne (by omega), show j - k = (j - k - 2) + 2 by omega, List.getElem?_cons_succ, List.getElem?_cons_succ, List.getElem?_drop]
          congr 1
          omega
  rw [e2]
  conv => rhs; rw [e]
  exact List.Perm.append_left _ (List.Perm.swap _ _ _)
/-- a new one -/
def addY (A : YA) (c : Nat) (k gr w a : Int) : YA := (A.n + 1, fun f i => if i = A.n then (if f = 0 then k else if f = 1 then gr else if f = 2 then w else if f = 3 then 0 else a) else A.att f i, fun c' => if c' = c then insAt (A.ch c) (A.ch c).length A.n else A.ch c', A.sc)
theorem addY_wf {A : YA} (h : WFY A) {c : Nat} {k gr w a : Int} (hc : c < 2) (hn : A.n < 8) (hk : 0 ≤ k ∧ k ≤ 5) (hg : 0 ≤ gr ∧ gr ≤ 20) (hw : 0 ≤ w ∧ w ≤ 20) (ha : 0 ≤ a ∧ a ≤ 9) : WFY (addY A c k gr w a) := by
  have hch : ∀ c', (addY A c k gr w a).ch c' = if c' = c then insAt (A.ch c) (A.ch c).length A.n else A.ch c' := fun _ => rfl
  have hm : ∀ c' q, q ∈ (addY A c k gr w a).ch c' ↔ (c' = c ∧ q = A.n) ∨ q ∈ A.ch c' := fun c' q => by
    rw [hch]
    by_cases e : c' = c
    · subst e; rw [if_pos rfl, insAt_mem]; simp
    · rw [if_neg e]; simp [e]
  have hnot : ∀ c', c' < 2 → A.n ∉ A.ch c' := fun c' hc' q => Nat.lt_irrefl _ (h.lt hc' q)
  refine ⟨show A.n + 1 ≤ 8 by omega, fun c' hc' p hp => ?_, fun p hp => ?_, fun c' hc' => ?_, fun p hp q => ?_, ?_, fun p hp => ?_, h.s1, h.s2, h.s3, h.s4, h.s5, h.s6, h.s7⟩
  · show p < A.n + 1
    rcases (hm c' p).mp hp with ⟨_, e⟩ | q
    · omega
    · have := h.lt hc' q; omega
  · have hp' : p < A.n + 1 := hp
    rw [hm, hm]
    by_cases e : p = A.n
    · rcases (show c = 0 ∨ c = 1 by omega) with e1 | e1
      · exact Or.inl (Or.inl ⟨e1.symm, e⟩)
      · exact Or.inr (Or.inl ⟨e1.symm, e⟩)
    · exact (h.cov (show p < A.n by omega)).imp Or.inr Or.inr
  · rw [hch]
    by_cases e : c' = c
    · subst e; rw [if_pos rfl]; exact insAt_nodup (h.nd hc') (hnot _ hc')
    · rw [if_neg e]; exact h.nd hc'
  · rw [hm] at hp q
    rcases hp with ⟨e1, e2⟩ | hp <;> rcases q with ⟨e3, e4⟩ | q
    · omega
    · exact hnot 1 (by decide) (e2 ▸ q)
    · exact hnot 0 (by decide) (e4 ▸ hp)
    · exact h.dj hp q
  · show ((addY A c k gr w a).ch 0).length + ((addY A c k gr w a).ch 1).length = A.n + 1
    have := h.len
    rw [hch, hch]
    rcases (show c = 0 ∨ c = 1 by omega) with rfl | rfl
    · rw [if_pos rfl, if_neg (by decide), insAt_len (Nat.le_refl _)]; omega
    · rw [if_neg (by decide), if_pos rfl, insAt_len (Nat.le_refl _)]; omega
  · have hp' : p < A.n + 1 := hp
    by_cases e : p = A.n
    · subst e
      show (0 ≤ (if A.n = A.n then _ else _) ∧ (if A.n = A.n then _ else _) ≤ 5) ∧ (0 ≤ (if A.n = A.n then _ else _) ∧ (if A.n = A.n then _ else _) ≤ 20) ∧ (0 ≤ (if A.n = A.n then _ else _) ∧ (if A.n = A.n then _ else _) ≤ 20) ∧ (0 ≤ (if A.n = A.n then _ else _) ∧ (if A.n = A.n then _ else _) ≤ 20) ∧ (0 ≤ (if A.n = A.n then _ else _) ∧ (if A.n = A.n then _ else _) ≤ 9)
      simp
      omega
    · have e2 : ∀ f, (addY A c k gr w a).att f p = A.att f p := fun f => if_neg e
      rw [e2, e2, e2, e2, e2]
      have hp2 : p < A.n := by omega
      exact ⟨h.kd hp2, h.gr hp2, h.we hp2, h.ti hp2, h.by_ hp2⟩
/-- draws -/
def nxtS (s : Int) : Int := w32 (w32 (s * 1103515245) + 12345)
def drwS (s n : Int) : Int := (jushr s 16).tmod n
theorem w32_rg (x : Int) : -2147483648 ≤ w32 x ∧ w32 x ≤ 2147483647 := by
  unfold w32
  have h1 := Int.le_bmod (x := x) (m := 4294967296) (by decide)
  have h2 := Int.bmod_lt (x := x) (m := 4294967296) (by decide)
  omega
theorem jushr16_rg (s : Int) : 0 ≤ jushr s 16 ∧ jushr s 16 ≤ 65535 := by
  unfold jushr
  have h := pk_ushr (Int32.ofInt s) (Int32.ofInt 16) 16 (by decide)
  generalize ((Int32.ofInt s).toUInt32 >>> ((Int32.ofInt 16).toUInt32 &&& Int32.toUInt32 31)).toInt32 = z at h ⊢
  have h1 : (Int32.ofInt s).toBitVec.toNat < 2 ^ 32 := (Int32.ofInt s).toBitVec.isLt
  have h2 : z.toBitVec.toNat < 65536 := by rw [h]; omega
  have h3 : z.toInt = (z.toBitVec.toNat : Int) := by
    show z.toBitVec.toInt = _
    rw [BitVec.toInt_eq_toNat_of_lt (by omega)]
  rw [h3]
  omega
theorem drwS_rg (s : Int) {n : Int} (hn : 1 ≤ n) : 0 ≤ drwS s n ∧ drwS s n < n := by
  unfold drwS
  have h := jushr16_rg s
  rw [jrem h.1 (by omega)]
  exact ⟨Int.emod_nonneg _ (by omega), Int.emod_lt_of_pos _ (by omega)⟩
/-- a rest of n of the first k -/
def rsv (A : YA) (n : Int) (i : Nat) : Int := if 0 < A.att 3 i - n then A.att 3 i - n else 0
def rstK (A : YA) (n : Int) (k : Nat) : YA := (A.n, fun f i => if f = 3 ∧ i < k then rsv A n i else A.att f i, A.ch, A.sc)
theorem rstK_0 (A : YA) (n : Int) : rstK A n 0 = A := by
  obtain ⟨m, at_, ch, sc⟩ := A
  show (m, (fun f i => if f = 3 ∧ i < 0 then _ else at_ f i), ch, sc) = _
  congr 2
  funext f i
  rw [if_neg (fun q => Nat.not_lt_zero i q.2)]
theorem rstK_s (A : YA) (n : Int) (k : Nat) : (rstK A n k).setA 3 k (rsv A n k) = rstK A n (k + 1) := by
  show (A.n, (fun f i => if f = 3 ∧ i = k then _ else if f = 3 ∧ i < k then _ else A.att f i), A.ch, A.sc) = (A.n, (fun f i => if f = 3 ∧ i < k + 1 then _ else A.att f i), A.ch, A.sc)
  congr 2
  funext f i
  by_cases e1 : f = 3
  · by_cases e2 : i = k
    · subst e2; rw [if_pos ⟨e1, rfl⟩, if_pos ⟨e1, by omega⟩]
    · rw [if_neg (fun q => e2 q.2)]
      by_cases e3 : i < k
      · rw [if_pos ⟨e1, e3⟩, if_pos ⟨e1, by omega⟩]
      · rw [if_neg (fun q => e3 q.2), if_neg (fun q => by omega)]
  · rw [if_neg (fun q => e1 q.1), if_neg (fun q => e1 q.1), if_neg (fun q => e1 q.1)]
theorem rstK_wf {A : YA} (h : WFY A) {n : Int} (hn : 0 ≤ n) (k : Nat) : WFY (rstK A n k) := by
  refine h.of rfl (fun p hp => ⟨fun f _ hf => if_neg (fun q => hf q.1), ?_⟩) h.2.1 h.2.2.1 h.2.2.2.1 h.2.2.2.2.1 h.len ⟨rfl, rfl, rfl, rfl, h.s5, h.s6, h.s7⟩
  have := h.ti hp
  show 0 ≤ (if 3 = 3 ∧ p < k then rsv A n p else A.att 3 p) ∧ (if 3 = 3 ∧ p < k then rsv A n p else A.att 3 p) ≤ 20
  unfold rsv
  repeat' split
  all_goals omega
def rstC (A : YA) (n : Int) (k : Nat) : Nat := cntF (fun i => decide (¬ 0 < A.att 3 i - n)) k
/-- the firmest pair -/
def prJ (A : YA) (i : Nat) : Nat → Int × Int → Int × Int
  | 0, s => s
  | k + 1, s => if (prJ A i k s).2 < hold A i (((i + 1 + k : Nat)) : Int) + hold A (i + 1 + k) ((i : Nat) : Int) then (10 * ((i : Nat) : Int) + (((i + 1 + k : Nat)) : Int), hold A i (((i + 1 + k : Nat)) : Int) + hold A (i + 1 + k) ((i : Nat) : Int)) else prJ A i k s
def prI (A : YA) : Nat → Int × Int
  | 0 => (0, -1)
  | i + 1 => prJ A i (A.n - (i + 1)) (prI A i)

set_option maxHeartbeats 4000000 in
theorem c_X5_changePlaces {g : WG} {d : Nat} {T : TT} {M : MM} {r sz : Nat} {A : YA} {Q : MVal → TT → MM → Nat → Prop} (hT : YT T r) (hP : YP M r A) (hB : YB8 A) {c k : Nat} (hc : c < 2) (hk : k + 1 < (A.ch c).length) (hQ : ∀ M', YP M' r (A.setC c (swpL (A.ch c) k)) → FrY r M M' → Q vU T M' sz) : Ct g (d + 1) mX5_changePlaces [vR (r), vI (((c : Nat) : Int)), vI (((k : Nat) : Int))] T M sz 0 0 Q := by
  refine Ct_of2 (ls := [vR (r), vI (((c : Nat) : Int)), vI (((k : Nat) : Int)), vU, vU]) okX5_changePlaces rfl (Nat.le_of_ble_eq_true rfl) rfl ?_
  intro x hx hr hnm
  have hl8 := hB.2.1 c hc
  refine J_aload_n hx dX5_changePlaces_0 (i := 0) rfl rfl ?_
  refine J_getR (b := r + 7) hx fl_X5_32 cl_X5 dX5_changePlaces_1 hT.o (by decide) rfl hT.r6 ?_
  refine J_iload_n hx dX5_changePlaces_4 (i := 1) rfl rfl ?_
  refine J_aald (b := r + 8 + c) hx c dX5_changePlaces_5 hT.k7 (by decide) (by omega) (hT.l7 (by omega)) (hT.f7 (by omega)) ?_
  refine J_astore_n (lsn := [vR (r), vI (((c : Nat) : Int)), vI (((k : Nat) : Int)), vR (r + 8 + c), vU]) hx dX5_changePlaces_6 (i := 3) rfl (Nat.le_of_ble_eq_true rfl) rfl rfl ?_
  refine J_aload_n hx dX5_changePlaces_7 (i := 3) rfl rfl ?_
  refine J_iload_n hx dX5_changePlaces_8 (i := 2) rfl rfl ?_
  refine J_iald2 (v := (((A.ch c).getD k 0 : Nat) : Int)) hx k dX5_changePlaces_9 (hT.kl (by omega)) (by omega) (hT.ll (by omega) (by omega)) (hP.ln (by omega) (by omega)) ?_
  refine J_istore (lsn := [vR (r), vI (((c : Nat) : Int)), vI (((k : Nat) : Int)), vR (r + 8 + c), vI ((((A.ch c).getD k 0 : Nat) : Int))]) hx dX5_changePlaces_10 (Nat.le_of_ble_eq_true rfl) rfl rfl ?_
  refine J_aload_n hx dX5_changePlaces_12 (i := 3) rfl rfl ?_
  refine J_iload_n hx dX5_changePlaces_13 (i := 2) rfl rfl ?_
  refine J_aload_n hx dX5_changePlaces_14 (i := 3) rfl rfl ?_
  refine J_iload_n hx dX5_changePlaces_15 (i := 2) rfl rfl ?_
  refine J_iconst (v := 1) hx dX5_changePlaces_16 (by decide) ?_
  refine J_iadd (v := ((k : Nat) : Int) + 1) hx dX5_changePlaces_17 (w32_id (by omega) (by omega)) ?_
  refine J_iald2 (v := (((A.ch c).getD (k + 1) 0 : Nat) : Int)) hx (k + 1) dX5_changePlaces_18 (hT.kl (by omega)) (by omega) (hT.ll (by omega) (by omega)) (hP.ln (by omega) (by omega)) ?_
  refine J_iast hx k dX5_changePlaces_19 (hT.kl (by omega)) (by omega) (hT.ll (by omega) (by omega)) ?_
  generalize eM1 : up2 M (r + 8 + c) k (((A.ch c).getD (k + 1) 0 : Nat) : Int) = M1
  have hM1a : M1 (r + 8 + c) k = (((A.ch c).getD (k + 1) 0 : Nat) : Int) := by rw [← eM1]; exact up2_at
  have hM1o : ∀ b9 j9, (b9 ≠ r + 8 + c ∨ j9 ≠ k) → M1 b9 j9 = M b9 j9 := fun b9 j9 h9 => by rw [← eM1]; exact up2_ne h9
  have hM1r : ∀ b9, b9 ≠ r + 8 + c → M1 b9 = M b9 := fun b9 h9 => by rw [← eM1]; exact up2_row h9
  refine J_aload_n hx dX5_changePlaces_20 (i := 3) rfl rfl ?_
  refine J_iload_n hx dX5_changePlaces_21 (i := 2) rfl rfl ?_
  refine J_iconst (v := 1) hx dX5_changePlaces_22 (by decide) ?_
  refine J_iadd (v := ((k : Nat) : Int) + 1) hx dX5_changePlaces_23 (w32_id (by omega) (by omega)) ?_
  refine J_iload hx dX5_changePlaces_24 rfl ?_
  refine J_iast hx (k + 1) dX5_changePlaces_26 (hT.kl (by omega)) (by omega) (hT.ll (by omega) (by omega)) ?_
  generalize eM2 : up2 M1 (r + 8 + c) (k + 1) (((A.ch c).getD k 0 : Nat) : Int) = M2
  have hM2a : M2 (r + 8 + c) (k + 1) = (((A.ch c).getD k 0 : Nat) : Int) := by rw [← eM2]; exact up2_at
  have hM2o : ∀ b9 j9, (b9 ≠ r + 8 + c ∨ j9 ≠ k + 1) → M2 b9 j9 = M1 b9 j9 := fun b9 j9 h9 => by rw [← eM2]; exact up2_ne h9
  have hM2r : ∀ b9, b9 ≠ r + 8 + c → M2 b9 = M1 b9 := fun b9 h9 => by rw [← eM2]; exact up2_row h9
  refine J_vret hx hr dX5_changePlaces_27 ?_
  refine hQ M2 (hP.setC hc (fun q hq => absurd (by rw [hM2r _ (by omega), hM1r _ (by omega)]) hq) (fun q hq => ?_) (fun j hj => ?_) ?_ ?_ (fun a h1 h2 h3 => by rw [hM2r a h2, hM1r a h2])) (fun a ha => by rw [hM2r a (by omega), hM1r a (by omega)])
  · rw [hM2r _ (by omega), hM1r _ (by omega)]; exact hP.2.1 c hc q ((swpL_perm hk).mem_iff.mp hq)
  · rw [swpL_len] at hj
    rw [swpL_getD hk]
    by_cases e : j = k + 1
    · subst e; rw [if_neg (by omega), if_pos rfl, hM2a]
    · rw [hM2o _ _ (Or.inr e)]
      by_cases e2 : j = k
      · subst e2; rw [if_pos rfl, hM1a]
      · rw [if_neg e2, if_neg e, hM1o _ _ (Or.inr e2)]; exact hP.ln hc hj
  · rw [hM2r _ (by omega), hM1r _ (by omega), swpL_len]; exact hP.sz hc
  · rw [hM2r _ (by omega), hM1r _ (by omega)]

set_option maxHeartbeats 4000000 in
theorem c_X5_add {g : WG} {d : Nat} {T : TT} {M : MM} {r sz : Nat} {A : YA} {Q : MVal → TT → MM → Nat → Prop} (hT : YT T r) (hN : YN M r A) (hW : WFY A) {c : Nat} {kd gr w a : Int} (hc : c < 2) (hn7 : A.n < 8) (hk0 : 0 ≤ kd ∧ kd ≤ 5) (hg0 : 0 ≤ gr ∧ gr ≤ 20) (hw0 : 0 ≤ w ∧ w ≤ 20) (ha0 : 0 ≤ a ∧ a ≤ 9) (hQ : ∀ M', YN M' r (addY A c kd gr w a) → FrY r M M' → Q (vI ((A.n : Nat) : Int)) T M' sz) : Ct g (d + 2) mX5_add [vR (r), vI (((c : Nat) : Int)), vI (kd), vI (gr), vI (w), vI (a)] T M sz 0 0 Q := by
  refine Ct_of2 (ls := [vR (r), vI (((c : Nat) : Int)), vI (kd), vI (gr), vI (w), vI (a), vU]) okX5_add rfl (Nat.le_of_ble_eq_true rfl) rfl ?_
  intro x hx hr hnm
  have hl8 := hW.len8 hc
  have hlN := hW.lenN hc
  refine J_aload_n hx dX5_add_0 (i := 0) rfl rfl ?_
  refine J_getI2 (v := ((A.n : Nat) : Int)) hx fl_X5_57 cl_X5 dX5_add_1 hT.o (by decide) rfl hN.pp ?_
  refine J_istore (lsn := [vR (r), vI (((c : Nat) : Int)), vI (kd), vI (gr), vI (w), vI (a), vI (((A.n : Nat) : Int))]) hx dX5_add_4 (Nat.le_of_ble_eq_true rfl) rfl rfl ?_
  refine J_aload_n hx dX5_add_6 (i := 0) rfl rfl ?_
  refine J_dup hx dX5_add_7 rfl ?_
  refine J_getI2 (v := ((A.n : Nat) : Int)) hx fl_X5_57 cl_X5 dX5_add_8 hT.o (by decide) rfl hN.pp ?_
  refine J_iconst (v := 1) hx dX5_add_11 (by decide) ?_
  refine J_iadd (v := ((A.n : Nat) : Int) + 1) hx dX5_add_12 (w32_id (by omega) (by omega)) ?_
  refine J_putI hx fl_X5_57 cl_X5 dX5_add_13 hT.o (by decide) rfl (Or.inl rfl) (by decide) ?_
  generalize eM1 : up2 M r 8 (((A.n : Nat) : Int) + 1) = M1
  have hM1a : M1 r 8 = ((A.n : Nat) : Int) + 1 := by rw [← eM1]; exact up2_at
  have hM1o : ∀ b9 j9, (b9 ≠ r ∨ j9 ≠ 8) → M1 b9 j9 = M b9 j9 := fun b9 j9 h9 => by rw [← eM1]; exact up2_ne h9
  have hM1r : ∀ b9, b9 ≠ r → M1 b9 = M b9 := fun b9 h9 => by rw [← eM1]; exact up2_row h9
  refine J_aload_n hx dX5_add_16 (i := 0) rfl rfl ?_
  refine J_getR (b := r + 1) hx fl_X5_9 cl_X5 dX5_add_17 hT.o (by decide) rfl hT.r0 ?_
  refine J_iload hx dX5_add_20 rfl ?_
  refine J_iload_n hx dX5_add_22 (i := 2) rfl rfl ?_
  refine J_iast hx A.n dX5_add_23 hT.k1 (by omega) (hT.l1 (by omega)) ?_
  generalize eM2 : up2 M1 (r + 1) A.n kd = M2
  have hM2a : M2 (r + 1) A.n = kd := by rw [← eM2]; exact up2_at
  have hM2o : ∀ b9 j9, (b9 ≠ r + 1 ∨ j9 ≠ A.n) → M2 b9 j9 = M1 b9 j9 := fun b9 j9 h9 => by rw [← eM2]; exact up2_ne h9
  have hM2r : ∀ b9, b9 ≠ r + 1 → M2 b9 = M1 b9 := fun b9 h9 => by rw [← eM2]; exact up2_row h9
  refine J_aload_n hx dX5_add_24 (i := 0) rfl rfl ?_
  refine J_getR (b := r + 2) hx fl_X5_15 cl_X5 dX5_add_25 hT.o (by decide) rfl hT.r1 ?_
  refine J_iload hx dX5_add_28 rfl ?_
  refine J_iload_n hx dX5_add_30 (i := 3) rfl rfl ?_
  refine J_iast hx A.n dX5_add_31 hT.k2 (by omega) (hT.l2 (by omega)) ?_
  generalize eM3 : up2 M2 (r + 2) A.n gr = M3
  have hM3a : M3 (r + 2) A.n = gr := by rw [← eM3]; exact up2_at
  have hM3o : ∀ b9 j9, (b9 ≠ r + 2 ∨ j9 ≠ A.n) → M3 b9 j9 = M2 b9 j9 := fun b9 j9 h9 => by rw [← eM3]; exact up2_ne h9
  have hM3r : ∀ b9, b9 ≠ r + 2 → M3 b9 = M2 b9 := fun b9 h9 => by rw [← eM3]; exact up2_row h9
  refine J_aload_n hx dX5_add_32 (i := 0) rfl rfl ?_
  refine J_getR (b := r + 3) hx fl_X5_18 cl_X5 dX5_add_33 hT.o (by decide) rfl hT.r2 ?_
  refine J_iload hx dX5_add_36 rfl ?_
  refine J_iload hx dX5_add_38 rfl ?_
  refine J_iast hx A.n dX5_add_40 hT.k3 (by omega) (hT.l3 (by omega)) ?_
  generalize eM4 : up2 M3 (r + 3) A.n w = M4
  have hM4a : M4 (r + 3) A.n = w := by rw [← eM4]; exact up2_at
  have hM4o : ∀ b9 j9, (b9 ≠ r + 3 ∨ j9 ≠ A.n) → M4 b9 j9 = M3 b9 j9 := fun b9 j9 h9 => by rw [← eM4]; exact up2_ne h9
  have hM4r : ∀ b9, b9 ≠ r + 3 → M4 b9 = M3 b9 := fun b9 h9 => by rw [← eM4]; exact up2_row h9
  refine J_aload_n hx dX5_add_41 (i := 0) rfl rfl ?_
  refine J_getR (b := r + 4) hx fl_X5_21 cl_X5 dX5_add_42 hT.o (by decide) rfl hT.r3 ?_
  refine J_iload hx dX5_add_45 rfl ?_
  refine J_iconst (v := 0) hx dX5_add_47 (by decide) ?_
  refine J_iast hx A.n dX5_add_48 hT.k4 (by omega) (hT.l4 (by omega)) ?_
  generalize eM5 : up2 M4 (r + 4) A.n 0 = M5
  have hM5a : M5 (r + 4) A.n = 0 := by rw [← eM5]; exact up2_at
  have hM5o : ∀ b9 j9, (b9 ≠ r + 4 ∨ j9 ≠ A.n) → M5 b9 j9 = M4 b9 j9 := fun b9 j9 h9 => by rw [← eM5]; exact up2_ne h9
  have hM5r : ∀ b9, b9 ≠ r + 4 → M5 b9 = M4 b9 := fun b9 h9 => by rw [← eM5]; exact up2_row h9
  refine J_aload_n hx dX5_add_49 (i := 0) rfl rfl ?_
  refine J_getR (b := r + 5) hx fl_X5_24 cl_X5 dX5_add_50 hT.o (by decide) rfl hT.r4 ?_
  refine J_iload hx dX5_add_53 rfl ?_
  refine J_iload hx dX5_add_55 rfl ?_
  refine J_iast hx A.n dX5_add_57 hT.k5 (by omega) (hT.l5 (by omega)) ?_
  generalize eM6 : up2 M5 (r + 5) A.n a = M6
  have hM6a : M6 (r + 5) A.n = a := by rw [← eM6]; exact up2_at
  have hM6o : ∀ b9 j9, (b9 ≠ r + 5 ∨ j9 ≠ A.n) → M6 b9 j9 = M5 b9 j9 := fun b9 j9 h9 => by rw [← eM6]; exact up2_ne h9
  have hM6r : ∀ b9, b9 ≠ r + 5 → M6 b9 = M5 b9 := fun b9 h9 => by rw [← eM6]; exact up2_row h9
  have hP6 : YP M6 r (A.n + 1, fun f i => if i = A.n then (if f = 0 then kd else if f = 1 then gr else if f = 2 then w else if f = 3 then 0 else a) else A.att f i, A.ch, A.sc) := by
    have hP := hN.toP hW
    refine ⟨fun f hf i hi => ?_, fun c9 hc9 q9 hq9 => ?_, fun c9 hc9 k9 hk9 => ?_, fun c9 hc9 => ?_, ?_, fun q9 h1 h2 => ?_⟩
    · have hi2 : i < A.n + 1 := hi
      by_cases e : i = A.n
      · subst e
        rcases (show f = 0 ∨ f = 1 ∨ f = 2 ∨ f = 3 ∨ f = 4 by omega) with rfl | rfl | rfl | rfl | rfl
        · rw [show r + 1 + 0 = r + 1 by omega, hM6r _ (by omega), hM5r _ (by omega), hM4r _ (by omega), hM3r _ (by omega), hM2a]; show _ = (if A.n = A.n then (if (0 : Nat) = 0 then kd else if (0 : Nat) = 1 then gr else if (0 : Nat) = 2 then w else if (0 : Nat) = 3 then 0 else a) else A.att 0 A.n); rw [if_pos rfl]; rfl
        · rw [show r + 1 + 1 = r + 2 by omega, hM6r _ (by omega), hM5r _ (by omega), hM4r _ (by omega), hM3a]; show _ = (if A.n = A.n then (if (1 : Nat) = 0 then kd else if (1 : Nat) = 1 then gr else if (1 : Nat) = 2 then w else if (1 : Nat) = 3 then 0 else a) else A.att 1 A.n); rw [if_pos rfl]; rfl
        · rw [show r + 1 + 2 = r + 3 by omega, hM6r _ (by omega), hM5r _ (by omega), hM4a]; show _ = (if A.n = A.n then (if (2 : Nat) = 0 then kd else if (2 : Nat) = 1 then gr else if (2 : Nat) = 2 then w else if (2 : Nat) = 3 then 0 else a) else A.att 2 A.n); rw [if_pos rfl]; rfl
        · rw [show r + 1 + 3 = r + 4 by omega, hM6r _ (by omega), hM5a]; show _ = (if A.n = A.n then (if (3 : Nat) = 0 then kd else if (3 : Nat) = 1 then gr else if (3 : Nat) = 2 then w else if (3 : Nat) = 3 then 0 else a) else A.att 3 A.n); rw [if_pos rfl]; rfl
        · rw [show r + 1 + 4 = r + 5 by omega, hM6a]; show _ = (if A.n = A.n then (if (4 : Nat) = 0 then kd else if (4 : Nat) = 1 then gr else if (4 : Nat) = 2 then w else if (4 : Nat) = 3 then 0 else a) else A.att 4 A.n); rw [if_pos rfl]; rfl
      · show _ = (if i = A.n then _ else A.att f i)
        rw [if_neg e, hM6o _ _ (Or.inr e), hM5o _ _ (Or.inr e), hM4o _ _ (Or.inr e), hM3o _ _ (Or.inr e), hM2o _ _ (Or.inr e), hM1r _ (by omega)]
        exact hP.1 f hf i (by omega)
    · rw [hM6r _ (by omega), hM5r _ (by omega), hM4r _ (by omega), hM3r _ (by omega), hM2r _ (by omega), hM1r _ (by omega)]; exact hP.2.1 c9 hc9 q9 hq9
    · rw [hM6r _ (by omega), hM5r _ (by omega), hM4r _ (by omega), hM3r _ (by omega), hM2r _ (by omega), hM1r _ (by omega)]; exact hP.ln hc9 hk9
    · rw [hM6r _ (by omega), hM5r _ (by omega), hM4r _ (by omega), hM3r _ (by omega), hM2r _ (by omega), hM1r _ (by omega)]; exact hP.sz hc9
    · rw [hM6r _ (by omega), hM5r _ (by omega), hM4r _ (by omega), hM3r _ (by omega), hM2r _ (by omega), hM1a]; rfl
    · rw [hM6r _ (by omega), hM5r _ (by omega), hM4r _ (by omega), hM3r _ (by omega), hM2r _ (by omega), hM1o _ _ (Or.inr (by omega))]; exact hP.2.2.2.2.2 q9 h1 h2
  have hB6 : YB8 (A.n + 1, fun f i => if i = A.n then (if f = 0 then kd else if f = 1 then gr else if f = 2 then w else if f = 3 then 0 else a) else A.att f i, A.ch, A.sc) := ⟨show A.n + 1 ≤ 8 by omega, fun c9 hc9 => hW.len8 hc9, fun c9 hc9 q9 hq9 => Nat.lt_succ_of_lt (hW.lt hc9 hq9)⟩
  refine J_aload_n hx dX5_add_58 (i := 0) rfl rfl ?_
  refine J_iload hx dX5_add_59 rfl ?_
  refine J_iload_n hx dX5_add_61 (i := 1) rfl rfl ?_
  refine J_aload_n hx dX5_add_62 (i := 0) rfl rfl ?_
  refine J_getR (b := r + 10) hx fl_X5_35 cl_X5 dX5_add_63 hT.o (by decide) rfl hT.r7 ?_
  refine J_iload_n hx dX5_add_66 (i := 1) rfl rfl ?_
  refine J_iald2 (v := (((A.ch c).length : Nat) : Int)) hx c dX5_add_67 hT.k10 (by omega) (hT.l10 (by omega)) (by rw [hM6r _ (by omega), hM5r _ (by omega), hM4r _ (by omega), hM3r _ (by omega), hM2r _ (by omega), hM1r _ (by omega)]; exact hN.sz hc) ?_
  refine J_invVv (As := [vI (((A.n : Nat) : Int)), vI (((c : Nat) : Int)), vI ((((A.ch c).length : Nat) : Int))]) (st := []) hx lk_X5_69 okX5_enter dX5_add_68 hT.o (by decide) rfl rfl rfl (Nat.le_of_ble_eq_true rfl) (Nat.zero_add _).symm (Nat.zero_add _).symm rfl (c_X5_enter hT hP6 hB6 (c := c) (p := A.n) (k := (A.ch c).length) hc (Nat.le_refl _) (by show (A.ch c).length < 8; omega) (show A.n < A.n + 1 by omega) (fun c9 hc9 q9 => Nat.lt_irrefl _ (hW.lt hc9 q9)) ?_)
  intro M7 hP7 hf7
  refine J_iload hx dX5_add_71 rfl ?_
  refine J_iret hx hr dX5_add_73 ?_
  exact hQ M7 (hP7.toN (addY_wf hW hc hn7 hk0 hg0 hw0 ha0)) (fun a9 ha9 => by rw [hf7 a9 ha9, hM6r a9 (by omega), hM5r a9 (by omega), hM4r a9 (by omega), hM3r a9 (by omega), hM2r a9 (by omega), hM1r a9 (by omega)])

set_option maxHeartbeats 4000000 in
theorem c_X5_drawBelow {g : WG} {d : Nat} {T : TT} {M : MM} {r sz : Nat} {A : YA} {Q : MVal → TT → MM → Nat → Prop} (hT : YT T r) (hN : YN M r A) (hW : WFY A) {n : Int} (hn : 1 ≤ n) (hQ : ∀ M', YP M' r (A.setS 7 (nxtS (A.sc 7))) → FrY r M M' → Q (vI (drwS (nxtS (A.sc 7)) n)) T M' sz) : Ct g (d + 1) mX5_drawBelow [vR (r), vI (n)] T M sz 0 0 Q := by
  refine Ct_of2 (ls := [vR (r), vI (n)]) okX5_drawBelow rfl (Nat.le_of_ble_eq_true rfl) rfl ?_
  intro x hx hr hnm
  have hP := hN.toP hW
  refine J_aload_n hx dX5_drawBelow_0 (i := 0) rfl rfl ?_
  refine J_aload_n hx dX5_drawBelow_1 (i := 0) rfl rfl ?_
  refine J_getI2 (v := A.sc 7) hx fl_X5_48 cl_X5 dX5_drawBelow_2 hT.o (by decide) rfl hN.s7 ?_
  refine J_ldc (v := 1103515245) hx ct_X5_136 dX5_drawBelow_5 (by decide) ?_
  refine J_imul (v := w32 (A.sc 7 * 1103515245)) hx dX5_drawBelow_7 rfl ?_
  refine J_sipush (v := 12345) hx dX5_drawBelow_8 (by decide) ?_
  refine J_iadd (v := nxtS (A.sc 7)) hx dX5_drawBelow_11 rfl ?_
  refine J_putI hx fl_X5_48 cl_X5 dX5_drawBelow_12 hT.o (by decide) rfl (Or.inl rfl) (by decide) ?_
  have hP1 := hP.setS (q := 7) (nxtS (A.sc 7)) (by decide)
  have hF1 := (FrY.rf (r := r) (M := M)).up (k := 0) (i := 15) (by decide) (nxtS (A.sc 7))
  generalize eM1 : up2 M r 15 (nxtS (A.sc 7)) = M1 at hP1 hF1 ⊢
  refine J_iload_n hx dX5_drawBelow_15 (i := 1) rfl rfl ?_
  refine J_iconst (v := 1) hx dX5_drawBelow_16 (by decide) ?_
  refine J_icmp_ge (tgt := 24) hx dX5_drawBelow_17 (by decide) (fun _ => ?_) (fun c9 => absurd hn c9)
  refine J_aload_n hx dX5_drawBelow_24 (i := 0) rfl rfl ?_
  refine J_getI2 (v := nxtS (A.sc 7)) hx fl_X5_48 cl_X5 dX5_drawBelow_25 hT.o (by decide) rfl (hP1.2.2.2.2.2 7 (by decide) (by decide)) ?_
  refine J_bipush (v := 16) hx dX5_drawBelow_28 (by decide) ?_
  refine J_iushr (v := jushr (nxtS (A.sc 7)) 16) hx dX5_drawBelow_30 rfl ?_
  refine J_iload_n hx dX5_drawBelow_31 (i := 1) rfl rfl ?_
  refine J_irem (v := drwS (nxtS (A.sc 7)) n) hx dX5_drawBelow_32 (by omega) rfl ?_
  refine J_iret hx hr dX5_drawBelow_33 ?_
  exact hQ _ hP1 hF1

theorem seed_wf {A : YA} (h : WFY A) {v : Int} (hv : -2147483648 ≤ v ∧ v ≤ 2147483647) : WFY (A.setS 7 v) := by
  refine h.of rfl (fun p hp => ⟨fun _ _ _ => rfl, h.ti hp⟩) h.2.1 h.2.2.1 h.2.2.2.1 h.2.2.2.2.1 h.len ⟨rfl, rfl, rfl, rfl, h.s5, h.s6, hv⟩
def drawn (A : YA) : YA := A.setS 7 (nxtS (A.sc 7))
theorem drawn_wf {A : YA} (h : WFY A) : WFY (drawn A) := seed_wf h (w32_rg _)
def tornY (A : YA) (p j : Nat) : Prop := strl A (A.ch A.tn) j < force A p + drwS (nxtS (A.sc 7)) (A.sc 2)
def takenY (A : YA) (j sd : Nat) : Nat := (A.ch A.tn).getD (j + sd) 0
set_option maxHeartbeats 4000000 in
theorem c_X5_runByDraw {g : WG} {d : Nat} {T : TT} {M : MM} {r sz : Nat} {A : YA} {Q : MVal → TT → MM → Nat → Prop} (hT : YT T r) (hN : YN M r A) (hW : WFY A) {p j sd : Nat} (hp : p < A.n) (hc : A.co p ≠ A.tn) (hj : j + 1 < (A.ch A.tn).length) (ho : ¬ overY A) (hsd : sd < 2) (hQ1 : tornY A p j → ∀ M', YN M' r (runT (drawn A) p j (takenY A j sd)) → FrY r M M' → Q (vI 1) T M' sz) (hQ0 : ¬ tornY A p j → ∀ M', YN M' r (runH (drawn A) p j) → FrY r M M' → Q (vI 0) T M' sz) : Ct g (d + 3) mX5_runByDraw [vR (r), vI (((p : Nat) : Int)), vI (((j : Nat) : Int)), vI (((sd : Nat) : Int))] T M sz 0 0 Q := by
  refine Ct_of2 (ls := [vR (r), vI (((p : Nat) : Int)), vI (((j : Nat) : Int)), vI (((sd : Nat) : Int)), vU]) okX5_runByDraw rfl (Nat.le_of_ble_eq_true rfl) rfl ?_
  intro x hx hr hnm
  have hn8 := hW.n8
  have ht2 := hW.tn2
  refine J_aload_n hx dX5_runByDraw_0 (i := 0) rfl rfl ?_
  refine J_iload_n hx dX5_runByDraw_1 (i := 1) rfl rfl ?_
  refine J_invV (As := [vI (((p : Nat) : Int))]) (st := []) hx lk_X5_90 okX5_forceOf dX5_runByDraw_2 hT.o (by decide) rfl rfl rfl (Nat.le_of_ble_eq_true rfl) (Nat.zero_add _).symm (Nat.zero_add _).symm rfl (c_X5_forceOf hT hN hW (p := p) (by omega) ?_)
  have rg1 := force_rg hW (p := p) (by omega)
  refine J_aload_n hx dX5_runByDraw_5 (i := 0) rfl rfl ?_
  refine J_aload_n hx dX5_runByDraw_6 (i := 0) rfl rfl ?_
  refine J_getI2 (v := A.sc 2) hx fl_X5_42 cl_X5 dX5_runByDraw_7 hT.o (by decide) rfl hN.s2 ?_
  have rg2 := hW.s2
  refine J_invV (As := [vI (A.sc 2)]) (st := [vI (force A p)]) hx lk_X5_130 okX5_drawBelow dX5_runByDraw_10 hT.o (by decide) rfl rfl rfl (Nat.le_of_ble_eq_true rfl) (Nat.zero_add _).symm (Nat.zero_add _).symm rfl (c_X5_drawBelow hT hN hW (by omega) ?_)
  intro M1 hP1 hf1
  have hW1 := drawn_wf hW
  have hN1 : YN M1 r (drawn A) := YP.toN hP1 hW1
  have rgd := drwS_rg (nxtS (A.sc 7)) (n := A.sc 2) (by omega)
  have rgt := hW1.tn2
  have rgl := hW1.len8 rgt
  have hj1 : j + 1 < ((drawn A).ch (drawn A).tn).length := hj
  refine J_iadd (v := force A p + (drwS (nxtS (A.sc 7)) (A.sc 2))) hx dX5_runByDraw_13 (w32_id (by omega) (by omega)) ?_
  refine J_aload_n hx dX5_runByDraw_14 (i := 0) rfl rfl ?_
  refine J_aload_n hx dX5_runByDraw_15 (i := 0) rfl rfl ?_
  refine J_getI2 (v := (((drawn A).tn : Nat) : Int)) hx fl_X5_63 cl_X5 dX5_runByDraw_16 hT.o (by decide) rfl (hN1.tn hW1) ?_
  have rg3 := hW1.tn2
  refine J_iload_n hx dX5_runByDraw_19 (i := 2) rfl rfl ?_
  refine J_invV (As := [vI ((((drawn A).tn : Nat) : Int)), vI (((j : Nat) : Int))]) (st := [vI (force A p + (drwS (nxtS (A.sc 7)) (A.sc 2)))]) hx lk_X5_82 okX5_strengthAt dX5_runByDraw_20 hT.o (by decide) rfl rfl rfl (Nat.le_of_ble_eq_true rfl) (Nat.zero_add _).symm (Nat.zero_add _).symm rfl (c_X5_strengthAt hT hN1 hW1 (c := (drawn A).tn) (by omega) (j := j) (by omega) ?_)
  have rg4 := strl_rg hW1 (l := (drawn A).ch ((drawn A).tn)) (fun p hp => hW1.lt (by omega) hp) (j := j) (by omega)
  refine J_icmp_le (tgt := 30) hx dX5_runByDraw_23 (by decide) (fun c5 => ?_) (fun c5 => ?_)
  · refine J_iconst (v := 0) hx dX5_runByDraw_30 (by decide) ?_
    refine J_istore (lsn := [vR (r), vI (((p : Nat) : Int)), vI (((j : Nat) : Int)), vI (((sd : Nat) : Int)), vI (0)]) hx dX5_runByDraw_31 (Nat.le_of_ble_eq_true rfl) rfl rfl ?_
    refine J_aload_n hx dX5_runByDraw_33 (i := 0) rfl rfl ?_
    refine J_iload_n hx dX5_runByDraw_34 (i := 1) rfl rfl ?_
    refine J_iload_n hx dX5_runByDraw_35 (i := 2) rfl rfl ?_
    refine J_iload hx dX5_runByDraw_36 rfl ?_
    refine J_if_eq (tgt := 47) hx dX5_runByDraw_38 (by decide) (fun _ => ?_) (fun c9 => absurd c9 (by decide))
    refine J_iconst (v := 0) hx dX5_runByDraw_47 (by decide) ?_
    refine J_invVv (As := [vI (((p : Nat) : Int)), vI (((j : Nat) : Int)), vI (0)]) (st := []) hx lk_X5_133 okX5_comeToPass dX5_runByDraw_48 hT.o (by decide) rfl rfl rfl (Nat.le_of_ble_eq_true rfl) (Nat.zero_add _).symm (Nat.zero_add _).symm rfl (c_X5_comeToPass_held hT hN1 hW1 (p := p) (j := j) hp hc hj ho ?_)
    intro M2 hN2 hf2
    refine J_iload hx dX5_runByDraw_51 rfl ?_
    refine J_zret hx hr dX5_runByDraw_53 (by omega) ?_
    exact hQ0 (by unfold tornY; show ¬ strl (drawn A) ((drawn A).ch (drawn A).tn) j < _; omega) M2 hN2 (hf1.tr hf2)
  · refine J_iconst (v := 1) hx dX5_runByDraw_26 (by decide) ?_
    refine J_goto (tgt := 31) hx dX5_runByDraw_27 (by decide) ?_
    refine J_istore (lsn := [vR (r), vI (((p : Nat) : Int)), vI (((j : Nat) : Int)), vI (((sd : Nat) : Int)), vI (1)]) hx dX5_runByDraw_31 (Nat.le_of_ble_eq_true rfl) rfl rfl ?_
    refine J_aload_n hx dX5_runByDraw_33 (i := 0) rfl rfl ?_
    refine J_iload_n hx dX5_runByDraw_34 (i := 1) rfl rfl ?_
    refine J_iload_n hx dX5_runByDraw_35 (i := 2) rfl rfl ?_
    refine J_iload hx dX5_runByDraw_36 rfl ?_
    refine J_if_eq (tgt := 47) hx dX5_runByDraw_38 (by decide) (fun c9 => absurd c9 (by decide)) (fun _ => ?_)
    refine J_iconst (v := 1) hx dX5_runByDraw_41 (by decide) ?_
    refine J_iload_n hx dX5_runByDraw_42 (i := 3) rfl rfl ?_
    refine J_iadd (v := 1 + ((sd : Nat) : Int)) hx dX5_runByDraw_43 (w32_id (by omega) (by omega)) ?_
    refine J_goto (tgt := 48) hx dX5_runByDraw_44 (by decide) ?_
    rcases (show sd = 0 ∨ sd = 1 by omega) with rfl | rfl
    · refine J_invVv (As := [vI (((p : Nat) : Int)), vI (((j : Nat) : Int)), vI (1)]) (st := []) hx lk_X5_133 okX5_comeToPass dX5_runByDraw_48 hT.o (by decide) rfl rfl rfl (Nat.le_of_ble_eq_true rfl) (Nat.zero_add _).symm (Nat.zero_add _).symm rfl (c_X5_comeToPass_torn1 hT hN1 hW1 (p := p) (j := j) hp hc hj ho ?_)
      intro M2 hN2 hf2
      refine J_iload hx dX5_runByDraw_51 rfl ?_
      refine J_zret hx hr dX5_runByDraw_53 (by omega) ?_
      exact hQ1 (by unfold tornY; show strl (drawn A) ((drawn A).ch (drawn A).tn) j < _; omega) M2 hN2 (hf1.tr hf2)
    · refine J_invVv (As := [vI (((p : Nat) : Int)), vI (((j : Nat) : Int)), vI (2)]) (st := []) hx lk_X5_133 okX5_comeToPass dX5_runByDraw_48 hT.o (by decide) rfl rfl rfl (Nat.le_of_ble_eq_true rfl) (Nat.zero_add _).symm (Nat.zero_add _).symm rfl (c_X5_comeToPass_torn2 hT hN1 hW1 (p := p) (j := j) hp hc hj ho ?_)
      intro M2 hN2 hf2
      refine J_iload hx dX5_runByDraw_51 rfl ?_
      refine J_zret hx hr dX5_runByDraw_53 (by omega) ?_
      exact hQ1 (by unfold tornY; show strl (drawn A) ((drawn A).ch (drawn A).tn) j < _; omega) M2 hN2 (hf1.tr hf2)

set_option maxHeartbeats 4000000 in
theorem lp_X5_restAll {g : WG} {d : Nat} {T : TT} {M : MM} {r sz : Nat} {A : YA} {Q : MVal → TT → MM → Nat → Prop} (hT : YT T r) (hN : YN M r A) (hW : WFY A) {x : CX} (hx : OKx g x RX5 cX5_restAll (d + 2)) (hr : RTx g x (some .int) Q) {n : Int} (hn : 0 ≤ n ∧ n ≤ 20) (hQ : ∀ M', YN M' r (rstK A n A.n) → FrY r M M' → Q (vI ((rstC A n A.n : Nat) : Int)) T M' sz) (j f : Nat) (M1 : MM) (hj : j ≤ A.n) (hf : f = rstC A n j) (hP1 : YP M1 r (rstK A n j)) (hF1 : FrY r M M1) : Jd g x 4 [vR (r), vI (n), vI (((f : Nat) : Int)), vI (((j : Nat) : Int))] [] T M1 sz 0 0 := by
  have hn8 := hW.n8
  have hf8 : f ≤ j := by rw [hf]; exact cntF_le _ _
  have rgt := fun (h : j < A.n) => hW.ti h
  refine J_iload_n hx dX5_restAll_4 (i := 3) rfl rfl ?_
  refine J_aload_n hx dX5_restAll_5 (i := 0) rfl rfl ?_
  refine J_getI2 (v := ((A.n : Nat) : Int)) hx fl_X5_57 cl_X5 dX5_restAll_6 hT.o (by decide) rfl hP1.2.2.2.2.1 ?_
  refine J_icmp_ge (tgt := 48) hx dX5_restAll_9 (by decide) (fun c1 => ?_) (fun c1 => ?_)
  · refine J_iload_n hx dX5_restAll_48 (i := 2) rfl rfl ?_
    refine J_iret hx hr dX5_restAll_49 ?_
    have ej : j = A.n := by omega
    subst ej
    exact Qv (hQ M1 (hP1.toN (rstK_wf hW hn.1 _)) hF1) (by rw [hf])
  · refine J_aload_n hx dX5_restAll_12 (i := 0) rfl rfl ?_
    refine J_getR (b := r + 4) hx fl_X5_21 cl_X5 dX5_restAll_13 hT.o (by decide) rfl hT.r3 ?_
    refine J_iload_n hx dX5_restAll_16 (i := 3) rfl rfl ?_
    refine J_iconst (v := 0) hx dX5_restAll_17 (by decide) ?_
    refine J_aload_n hx dX5_restAll_18 (i := 0) rfl rfl ?_
    refine J_getR (b := r + 4) hx fl_X5_21 cl_X5 dX5_restAll_19 hT.o (by decide) rfl hT.r3 ?_
    refine J_iload_n hx dX5_restAll_22 (i := 3) rfl rfl ?_
    refine J_iald2 (v := A.att 3 j) hx j dX5_restAll_23 hT.k4 (by omega) (hT.l4 (by omega)) (by rw [hP1.ti (show j < A.n by omega)]; exact if_neg (fun q => Nat.lt_irrefl _ q.2)) ?_
    have rg23 := rgt (by omega)
    refine J_iload_n hx dX5_restAll_24 (i := 1) rfl rfl ?_
    refine J_isub (v := A.att 3 j - n) hx dX5_restAll_25 (w32_id (by omega) (by omega)) ?_
    refine J_mmax (v := rsv A n j) hx lk_X5_137 dX5_restAll_26 (Nat.le_of_ble_eq_true rfl) rfl ?_
    refine J_iast hx j dX5_restAll_29 hT.k4 (by omega) (hT.l4 (by omega)) ?_
    generalize eM2 : up2 M1 (r + 4) j (rsv A n j) = M2
    have hM2a : M2 (r + 4) j = rsv A n j := by rw [← eM2]; exact up2_at
    have hM2o : ∀ b9 j9, (b9 ≠ r + 4 ∨ j9 ≠ j) → M2 b9 j9 = M1 b9 j9 := fun b9 j9 h9 => by rw [← eM2]; exact up2_ne h9
    have hM2r : ∀ b9, b9 ≠ r + 4 → M2 b9 = M1 b9 := fun b9 h9 => by rw [← eM2]; exact up2_row h9
    refine J_aload_n hx dX5_restAll_30 (i := 0) rfl rfl ?_
    refine J_getR (b := r + 4) hx fl_X5_21 cl_X5 dX5_restAll_31 hT.o (by decide) rfl hT.r3 ?_
    refine J_iload_n hx dX5_restAll_34 (i := 3) rfl rfl ?_
    refine J_iald2 (v := rsv A n j) hx j dX5_restAll_35 hT.k4 (by omega) (hT.l4 (by omega)) hM2a ?_
    refine J_if_ne (tgt := 42) hx dX5_restAll_36 (by decide) (fun c36 => ?_) (fun c36 => ?_)
    · skip
      refine J_iinc (v := ((j : Nat) : Int) + 1) (lsn := [vR (r), vI (n), vI (((f : Nat) : Int)), vI (((j : Nat) : Int) + 1)]) hx dX5_restAll_42 rfl (jinc1 (by omega) (by omega)) rfl rfl ?_
      refine J_goto (tgt := 4) hx dX5_restAll_45 (by decide) ?_
      have hP2 : YP M2 r (rstK A n (j + 1)) := by rw [← rstK_s, ← eM2]; exact hP1.setA (f := 3) _ (by decide)
      have hF2 : FrY r M M2 := by rw [← eM2]; exact hF1.up (k := 4) (by decide) _
      exact lp_X5_restAll hT hN hW hx hr hn hQ (j + 1) f M2 (by omega) (by rw [hf]; unfold rstC; exact (cntF_f (by unfold rsv at c36; split at c36 <;> simp <;> omega)).symm) hP2 hF2
    · skip
      refine J_iinc (v := ((f : Nat) : Int) + 1) (lsn := [vR (r), vI (n), vI (((f : Nat) : Int) + 1), vI (((j : Nat) : Int))]) hx dX5_restAll_39 rfl (jinc1 (by omega) (by omega)) rfl rfl ?_
      refine J_iinc (v := ((j : Nat) : Int) + 1) (lsn := [vR (r), vI (n), vI (((f : Nat) : Int) + 1), vI (((j : Nat) : Int) + 1)]) hx dX5_restAll_42 rfl (jinc1 (by omega) (by omega)) rfl rfl ?_
      refine J_goto (tgt := 4) hx dX5_restAll_45 (by decide) ?_
      have hP2 : YP M2 r (rstK A n (j + 1)) := by rw [← rstK_s, ← eM2]; exact hP1.setA (f := 3) _ (by decide)
      have hF2 : FrY r M M2 := by rw [← eM2]; exact hF1.up (k := 4) (by decide) _
      exact lp_X5_restAll hT hN hW hx hr hn hQ (j + 1) (f + 1) M2 (by omega) (by rw [hf]; unfold rstC; exact (cntF_t (by unfold rsv at c36; split at c36 <;> simp <;> omega)).symm) hP2 hF2
termination_by A.n - j
decreasing_by all_goals omega

set_option maxHeartbeats 4000000 in
theorem c_X5_restAll {g : WG} {d : Nat} {T : TT} {M : MM} {r sz : Nat} {A : YA} {Q : MVal → TT → MM → Nat → Prop} (hT : YT T r) (hN : YN M r A) (hW : WFY A) {n : Int} (hn : 0 ≤ n ∧ n ≤ 20) (hQ : ∀ M', YN M' r (rstK A n A.n) → FrY r M M' → Q (vI ((rstC A n A.n : Nat) : Int)) T M' sz) : Ct g (d + 2) mX5_restAll [vR (r), vI (n)] T M sz 0 0 Q := by
  refine Ct_of2 (ls := [vR (r), vI (n), vU, vU]) okX5_restAll rfl (Nat.le_of_ble_eq_true rfl) rfl ?_
  intro x hx hr hnm
  refine J_iconst (v := 0) hx dX5_restAll_0 (by decide) ?_
  refine J_istore_n (lsn := [vR (r), vI (n), vI (0), vU]) hx dX5_restAll_1 (i := 2) rfl (Nat.le_of_ble_eq_true rfl) rfl rfl ?_
  refine J_iconst (v := 0) hx dX5_restAll_2 (by decide) ?_
  refine J_istore_n (lsn := [vR (r), vI (n), vI (0), vI (0)]) hx dX5_restAll_3 (i := 3) rfl (Nat.le_of_ble_eq_true rfl) rfl rfl ?_
  exact lp_X5_restAll hT hN hW hx hr hn hQ 0 0 M (by omega) rfl (by rw [rstK_0]; exact hN.toP hW) FrY.rf

theorem prJ_rg {A : YA} (h : WFY A) {i : Nat} (hi : i < A.n) {s : Int × Int} (hs : -1 ≤ s.2 ∧ s.2 ≤ 68 ∧ 0 ≤ s.1 ∧ s.1 ≤ 100) : ∀ {k : Nat}, i + k < A.n → -1 ≤ (prJ A i k s).2 ∧ (prJ A i k s).2 ≤ 68 ∧ 0 ≤ (prJ A i k s).1 ∧ (prJ A i k s).1 ≤ 100
  | 0, _ => hs
  | k + 1, hk => by
    have ih := prJ_rg h hi hs (k := k) (by omega)
    have h1 := hold_rg h hi (((i + 1 + k : Nat)) : Int)
    have h2 := hold_rg h (show i + 1 + k < A.n by omega) ((i : Nat) : Int)
    have h8 := h.n8
    have e : prJ A i (k + 1) s = if (prJ A i k s).2 < hold A i (((i + 1 + k : Nat)) : Int) + hold A (i + 1 + k) ((i : Nat) : Int) then (10 * ((i : Nat) : Int) + (((i + 1 + k : Nat)) : Int), hold A i (((i + 1 + k : Nat)) : Int) + hold A (i + 1 + k) ((i : Nat) : Int)) else prJ A i k s := rfl
    rw [e]
    split
    · dsimp only; omega
    · exact ih
theorem prI_rg {A : YA} (h : WFY A) : ∀ {i : Nat}, i ≤ A.n → -1 ≤ (prI A i).2 ∧ (prI A i).2 ≤ 68 ∧ 0 ≤ (prI A i).1 ∧ (prI A i).1 ≤ 100
  | 0, _ => by simp [prI]
  | i + 1, hi => prJ_rg h (by omega) (prI_rg h (by omega)) (by omega)
set_option maxHeartbeats 4000000 in
theorem lp2_X5_firmestPair {g : WG} {d : Nat} {T : TT} {M : MM} {r sz : Nat} {A : YA} {Q : MVal → TT → MM → Nat → Prop} (hT : YT T r) (hN : YN M r A) (hW : WFY A) {x : CX} (hx : OKx g x RX5 cX5_firmestPair (d + 2)) (hr : RTx g x (some .int) Q) {i : Nat} (hi : i < A.n) {s : Int × Int} (hs : -1 ≤ s.2 ∧ s.2 ≤ 68 ∧ 0 ≤ s.1 ∧ s.1 ≤ 100) (hK : ∀ u4 u : MVal, Jd g x 68 [vR r, vI (prJ A i (A.n - (i + 1)) s).1, vI (prJ A i (A.n - (i + 1)) s).2, vI ((i : Nat) : Int), u4, u] [] T M sz 0 0) (k : Nat) (w l : Int) (u : MVal) (hk : i + k < A.n) (hw : w = (prJ A i k s).1) (hl : l = (prJ A i k s).2) : Jd g x 19 [vR (r), vI (w), vI (l), vI (((i : Nat) : Int)), vI (((i + 1 + k : Nat) : Int)), u] [] T M sz 0 0 := by
  have hn8 := hW.n8
  have rgj := prJ_rg hW hi hs hk
  refine J_iload hx dX5_firmestPair_19 rfl ?_
  refine J_aload_n hx dX5_firmestPair_21 (i := 0) rfl rfl ?_
  refine J_getI2 (v := ((A.n : Nat) : Int)) hx fl_X5_57 cl_X5 dX5_firmestPair_22 hT.o (by decide) rfl hN.pp ?_
  have rg1 := hW.n8
  refine J_icmp_ge (tgt := 68) hx dX5_firmestPair_25 (by decide) (fun c2 => ?_) (fun c2 => ?_)
  · have ek : k = A.n - (i + 1) := by omega
    subst ek
    subst hw
    subst hl
    exact hK _ _
  · refine J_aload_n hx dX5_firmestPair_28 (i := 0) rfl rfl ?_
    refine J_iload_n hx dX5_firmestPair_29 (i := 3) rfl rfl ?_
    refine J_iload hx dX5_firmestPair_30 rfl ?_
    refine J_invV (As := [vI (((i : Nat) : Int)), vI (((i + 1 + k : Nat) : Int))]) (st := []) hx lk_X5_73 okX5_holdOf dX5_firmestPair_32 hT.o (by decide) rfl rfl rfl (Nat.le_of_ble_eq_true rfl) (Nat.zero_add _).symm (Nat.zero_add _).symm rfl (c_X5_holdOf hT hN hW (p := i) (by omega) (b := ((i + 1 + k : Nat) : Int)) (by omega) ?_)
    have rg3 := hold_rg hW (p := i) (by omega) ((i + 1 + k : Nat) : Int)
    refine J_aload_n hx dX5_firmestPair_35 (i := 0) rfl rfl ?_
    refine J_iload hx dX5_firmestPair_36 rfl ?_
    refine J_iload_n hx dX5_firmestPair_38 (i := 3) rfl rfl ?_
    refine J_invV (As := [vI (((i + 1 + k : Nat) : Int)), vI (((i : Nat) : Int))]) (st := [vI (hold A i ((i + 1 + k : Nat) : Int))]) hx lk_X5_73 okX5_holdOf dX5_firmestPair_39 hT.o (by decide) rfl rfl rfl (Nat.le_of_ble_eq_true rfl) (Nat.zero_add _).symm (Nat.zero_add _).symm rfl (c_X5_holdOf hT hN hW (p := i + 1 + k) (by omega) (b := ((i : Nat) : Int)) (by omega) ?_)
    have rg4 := hold_rg hW (p := i + 1 + k) (by omega) ((i : Nat) : Int)
    refine J_iadd (v := hold A i ((i + 1 + k : Nat) : Int) + (hold A (i + 1 + k) ((i : Nat) : Int))) hx dX5_firmestPair_42 (w32_id (by omega) (by omega)) ?_
    refine J_istore (lsn := [vR (r), vI (w), vI (l), vI (((i : Nat) : Int)), vI (((i + 1 + k : Nat) : Int)), vI (hold A i ((i + 1 + k : Nat) : Int) + (hold A (i + 1 + k) ((i : Nat) : Int)))]) hx dX5_firmestPair_43 (Nat.le_of_ble_eq_true rfl) rfl rfl ?_
    refine J_iload hx dX5_firmestPair_45 rfl ?_
    refine J_iload_n hx dX5_firmestPair_47 (i := 2) rfl rfl ?_
    refine J_icmp_le (tgt := 62) hx dX5_firmestPair_48 (by decide) (fun c5 => ?_) (fun c5 => ?_)
    · refine J_iinc (v := ((i + 1 + (k + 1) : Nat) : Int)) (lsn := [vR (r), vI (w), vI (l), vI (((i : Nat) : Int)), vI (((i + 1 + (k + 1) : Nat) : Int)), vI (hold A i ((i + 1 + k : Nat) : Int) + (hold A (i + 1 + k) ((i : Nat) : Int)))]) hx dX5_firmestPair_62 rfl (by rw [jinc1 (by omega) (by omega)]; omega) rfl rfl ?_
      refine J_goto (tgt := 19) hx dX5_firmestPair_65 (by decide) ?_
      have e9 : prJ A i (k + 1) s = prJ A i k s := by
          show (if _ then _ else _) = _
          rw [if_neg (by rw [← hl]; omega)]
      exact lp2_X5_firmestPair hT hN hW hx hr hi hs hK (k + 1) _ _ _ (by omega) (by rw [e9]; exact hw) (by rw [e9]; exact hl)
    · refine J_iload hx dX5_firmestPair_51 rfl ?_
      refine J_istore_n (lsn := [vR (r), vI (w), vI (hold A i ((i + 1 + k : Nat) : Int) + (hold A (i + 1 + k) ((i : Nat) : Int))), vI (((i : Nat) : Int)), vI (((i + 1 + k : Nat) : Int)), vI (hold A i ((i + 1 + k : Nat) : Int) + (hold A (i + 1 + k) ((i : Nat) : Int)))]) hx dX5_firmestPair_53 (i := 2) rfl (Nat.le_of_ble_eq_true rfl) rfl rfl ?_
      refine J_bipush (v := 10) hx dX5_firmestPair_54 (by decide) ?_
      refine J_iload_n hx dX5_firmestPair_56 (i := 3) rfl rfl ?_
      refine J_imul (v := 10 * ((i : Nat) : Int)) hx dX5_firmestPair_57 (w32_id (by omega) (by omega)) ?_
      refine J_iload hx dX5_firmestPair_58 rfl ?_
      refine J_iadd (v := 10 * ((i : Nat) : Int) + ((i + 1 + k : Nat) : Int)) hx dX5_firmestPair_60 (w32_id (by omega) (by omega)) ?_
      refine J_istore_n (lsn := [vR (r), vI (10 * ((i : Nat) : Int) + ((i + 1 + k : Nat) : Int)), vI (hold A i ((i + 1 + k : Nat) : Int) + (hold A (i + 1 + k) ((i : Nat) : Int))), vI (((i : Nat) : Int)), vI (((i + 1 + k : Nat) : Int)), vI (hold A i ((i + 1 + k : Nat) : Int) + (hold A (i + 1 + k) ((i : Nat) : Int)))]) hx dX5_firmestPair_61 (i := 1) rfl (Nat.le_of_ble_eq_true rfl) rfl rfl ?_
      refine J_iinc (v := ((i + 1 + (k + 1) : Nat) : Int)) (lsn := [vR (r), vI (10 * ((i : Nat) : Int) + ((i + 1 + k : Nat) : Int)), vI (hold A i ((i + 1 + k : Nat) : Int) + (hold A (i + 1 + k) ((i : Nat) : Int))), vI (((i : Nat) : Int)), vI (((i + 1 + (k + 1) : Nat) : Int)), vI (hold A i ((i + 1 + k : Nat) : Int) + (hold A (i + 1 + k) ((i : Nat) : Int)))]) hx dX5_firmestPair_62 rfl (by rw [jinc1 (by omega) (by omega)]; omega) rfl rfl ?_
      refine J_goto (tgt := 19) hx dX5_firmestPair_65 (by decide) ?_
      have e9 : prJ A i (k + 1) s = (10 * ((i : Nat) : Int) + ((i + 1 + k : Nat) : Int), hold A i (((i + 1 + k : Nat)) : Int) + hold A (i + 1 + k) ((i : Nat) : Int)) := by
          show (if _ then _ else _) = _
          rw [if_pos (by rw [← hl]; omega)]
      exact lp2_X5_firmestPair hT hN hW hx hr hi hs hK (k + 1) _ _ _ (by omega) (by rw [e9] <;> omega) (by rw [e9])
termination_by A.n - k
decreasing_by all_goals omega

set_option maxHeartbeats 4000000 in
theorem lp_X5_firmestPair {g : WG} {d : Nat} {T : TT} {M : MM} {r sz : Nat} {A : YA} {Q : MVal → TT → MM → Nat → Prop} (hT : YT T r) (hN : YN M r A) (hW : WFY A) {x : CX} (hx : OKx g x RX5 cX5_firmestPair (d + 2)) (hr : RTx g x (some .int) Q) (hQ : Q (vI (prI A A.n).1) T M sz) (i : Nat) (w l : Int) (u4 u : MVal) (hi : i ≤ A.n) (hw : w = (prI A i).1) (hl : l = (prI A i).2) : Jd g x 6 [vR (r), vI (w), vI (l), vI (((i : Nat) : Int)), u4, u] [] T M sz 0 0 := by
  have hn8 := hW.n8
  refine J_iload_n hx dX5_firmestPair_6 (i := 3) rfl rfl ?_
  refine J_aload_n hx dX5_firmestPair_7 (i := 0) rfl rfl ?_
  refine J_getI2 (v := ((A.n : Nat) : Int)) hx fl_X5_57 cl_X5 dX5_firmestPair_8 hT.o (by decide) rfl hN.pp ?_
  have rg1 := hW.n8
  refine J_icmp_ge (tgt := 74) hx dX5_firmestPair_11 (by decide) (fun c2 => ?_) (fun c2 => ?_)
  · refine J_iload_n hx dX5_firmestPair_74 (i := 1) rfl rfl ?_
    refine J_iret hx hr dX5_firmestPair_75 ?_
    have ei : i = A.n := by omega
    subst ei
    exact Qv hQ (by rw [hw])
  · refine J_iload_n hx dX5_firmestPair_14 (i := 3) rfl rfl ?_
    refine J_iconst (v := 1) hx dX5_firmestPair_15 (by decide) ?_
    refine J_iadd (v := ((i + 1 + 0 : Nat) : Int)) hx dX5_firmestPair_16 (by rw [w32_id (by omega) (by omega)]; omega) ?_
    refine J_istore (lsn := [vR (r), vI (w), vI (l), vI (((i : Nat) : Int)), vI (((i + 1 + 0 : Nat) : Int)), u]) hx dX5_firmestPair_17 (Nat.le_of_ble_eq_true rfl) rfl rfl ?_
    refine lp2_X5_firmestPair hT hN hW hx hr (i := i) (by omega) (s := prI A i) (prI_rg hW (by omega)) (fun u4 u5 => ?_) 0 _ _ _ (by omega) hw hl
    refine J_iinc (v := ((i + 1 : Nat) : Int)) (lsn := [vR r, vI (prJ A i (A.n - (i + 1)) (prI A i)).1, vI (prJ A i (A.n - (i + 1)) (prI A i)).2, vI ((i + 1 : Nat) : Int), u4, u5]) hx dX5_firmestPair_68 rfl (by rw [jinc1 (by omega) (by omega)]; omega) rfl rfl ?_
    refine J_goto (tgt := 6) hx dX5_firmestPair_71 (by decide) ?_
    exact lp_X5_firmestPair hT hN hW hx hr hQ (i + 1) _ _ _ _ (by omega) rfl rfl
termination_by A.n - i
decreasing_by all_goals omega

set_option maxHeartbeats 4000000 in
theorem c_X5_firmestPair {g : WG} {d : Nat} {T : TT} {M : MM} {r sz : Nat} {A : YA} {Q : MVal → TT → MM → Nat → Prop} (hT : YT T r) (hN : YN M r A) (hW : WFY A) (hQ : Q (vI (prI A A.n).1) T M sz) : Ct g (d + 2) mX5_firmestPair [vR (r)] T M sz 0 0 Q := by
  refine Ct_of2 (ls := [vR (r), vU, vU, vU, vU, vU]) okX5_firmestPair rfl (Nat.le_of_ble_eq_true rfl) rfl ?_
  intro x hx hr hnm
  refine J_iconst (v := 0) hx dX5_firmestPair_0 (by decide) ?_
  refine J_istore_n (lsn := [vR (r), vI (0), vU, vU, vU, vU]) hx dX5_firmestPair_1 (i := 1) rfl (Nat.le_of_ble_eq_true rfl) rfl rfl ?_
  refine J_iconst (v := -1) hx dX5_firmestPair_2 (by decide) ?_
  refine J_istore_n (lsn := [vR (r), vI (0), vI ((-1)), vU, vU, vU]) hx dX5_firmestPair_3 (i := 2) rfl (Nat.le_of_ble_eq_true rfl) rfl rfl ?_
  refine J_iconst (v := 0) hx dX5_firmestPair_4 (by decide) ?_
  refine J_istore_n (lsn := [vR (r), vI (0), vI ((-1)), vI (0), vU, vU]) hx dX5_firmestPair_5 (i := 3) rfl (Nat.le_of_ble_eq_true rfl) rfl rfl ?_
  exact lp_X5_firmestPair hT hN hW hx hr hQ 0 _ _ _ _ (by omega) rfl rfl
