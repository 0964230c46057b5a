/-! the tape: tokens, statements, a yard told -/
abbrev TK : Type := Nat × Int × Nat
def srtI (b : Int) : Int := if 97 ≤ b ∧ b ≤ 122 then 1 else if 48 ≤ b ∧ b ≤ 57 then 2 else if b = 59 then 3 else 4
theorem srtI_rg (b : Int) : 1 ≤ srtI b ∧ srtI b ≤ 4 := by unfold srtI; (repeat' split) <;> omega
def skS (B : Nat → Int) (z : Nat) : Nat → Nat → Nat
  | 0, e => e
  | k + 1, e => if e < z ∧ B e = 32 then skS B z k (e + 1) else e
def rnS (B : Nat → Int) (z : Nat) (ty : Int) : Nat → Nat → Nat
  | 0, e => e
  | k + 1, e => if e < z ∧ srtI (B e) = ty then rnS B z ty k (e + 1) else e
def spN (B : Nat → Int) (z e : Nat) : Nat := skS B z (z - e) e
def rnN (B : Nat → Int) (z : Nat) (ty : Int) (e : Nat) : Nat := rnS B z ty (z - e) e
theorem spN_go {B : Nat → Int} {z e : Nat} (h : e < z ∧ B e = 32) : spN B z e = spN B z (e + 1) := by
  unfold spN
  rw [show z - e = (z - (e + 1)) + 1 by omega]
  exact if_pos h
theorem spN_st {B : Nat → Int} {z e : Nat} (h : ¬ (e < z ∧ B e = 32)) : spN B z e = e := by
  unfold spN
  cases z - e with
  | zero => rfl
  | succ k => exact if_neg h
theorem rnN_go {B : Nat → Int} {z e : Nat} {ty : Int} (h : e < z ∧ srtI (B e) = ty) : rnN B z ty e = rnN B z ty (e + 1) := by
  unfold rnN
  rw [show z - e = (z - (e + 1)) + 1 by omega]
  exact if_pos h
theorem rnN_st {B : Nat → Int} {z e : Nat} {ty : Int} (h : ¬ (e < z ∧ srtI (B e) = ty)) : rnN B z ty e = e := by
  unfold rnN
  cases z - e with
  | zero => rfl
  | succ k => exact if_neg h
theorem skS_le {B : Nat → Int} {z : Nat} : ∀ k e, e ≤ z → e ≤ skS B z k e ∧ skS B z k e ≤ z
  | 0, e, h => ⟨Nat.le_refl _, h⟩
  | k + 1, e, h => by
    show e ≤ (if e < z ∧ B e = 32 then skS B z k (e + 1) else e) ∧ (if e < z ∧ B e = 32 then skS B z k (e + 1) else e) ≤ z
    split
    · have := skS_le (B := B) (z := z) k (e + 1) (by omega); omega
    · exact ⟨Nat.le_refl _, h⟩
theorem rnS_le {B : Nat → Int} {z : Nat} {ty : Int} : ∀ k e, e ≤ z → e ≤ rnS B z ty k e ∧ rnS B z ty k e ≤ z ∧ ∀ j, e ≤ j → j < rnS B z ty k e → srtI (B j) = ty
  | 0, e, h => ⟨Nat.le_refl _, h, fun j h1 h2 => absurd h2 (show ¬ j < e by omega)⟩
  | k + 1, e, h => by
    show e ≤ (if e < z ∧ srtI (B e) = ty then rnS B z ty k (e + 1) else e) ∧ (if e < z ∧ srtI (B e) = ty then rnS B z ty k (e + 1) else e) ≤ z ∧ ∀ j, e ≤ j → j < (if e < z ∧ srtI (B e) = ty then rnS B z ty k (e + 1) else e) → srtI (B j) = ty
    split
    · rename_i q
      obtain ⟨i1, i2, i3⟩ := rnS_le (B := B) (z := z) (ty := ty) k (e + 1) (by omega)
      refine ⟨by omega, i2, fun j h1 h2 => ?_⟩
      by_cases e9 : j = e
      · rw [e9]; exact q.2
      · exact i3 j (by omega) h2
    · exact ⟨Nat.le_refl _, h, fun j h1 h2 => absurd h2 (by omega)⟩
def tyN (B : Nat → Int) (z s : Nat) : Int := if s < z then srtI (B s) else 0
def enN (B : Nat → Int) (z s : Nat) : Nat := if tyN B z s = 1 ∨ tyN B z s = 2 then rnN B z (tyN B z s) s else if tyN B z s ≠ 0 then s + 1 else s
def tkN (B : Nat → Int) (z e : Nat) : TK := (spN B z e, tyN B z (spN B z e), enN B z (spN B z e))
def wfT (B : Nat → Int) (z : Nat) (tk : TK) : Prop := tk.1 ≤ z ∧ tk.1 ≤ tk.2.2 ∧ tk.2.2 ≤ z ∧ 0 ≤ tk.2.1 ∧ tk.2.1 ≤ 4 ∧ (tk.2.1 ≠ 0 → tk.1 < tk.2.2) ∧ (tk.2.1 = 2 → ∀ j, tk.1 ≤ j → j < tk.2.2 → 48 ≤ B j ∧ B j ≤ 57)
theorem srtI_2 {b : Int} (h : srtI b = 2) : 48 ≤ b ∧ b ≤ 57 := by unfold srtI at h; (repeat' split at h) <;> omega
theorem tkN_wf (B : Nat → Int) {z e : Nat} (he : e ≤ z) : wfT B z (tkN B z e) ∧ e ≤ (tkN B z e).1 := by
  obtain ⟨h1, h2⟩ := skS_le (B := B) (z := z) (z - e) e he
  have e1 : (tkN B z e).1 = spN B z e := rfl
  have e2 : (tkN B z e).2.1 = tyN B z (spN B z e) := rfl
  have e3 : (tkN B z e).2.2 = enN B z (spN B z e) := rfl
  have h1' : e ≤ spN B z e := h1
  have h2' : spN B z e ≤ z := h2
  unfold wfT
  rw [e1, e2, e3]
  generalize spN B z e = s at h1' h2'
  obtain ⟨r1, r2, r3⟩ := rnS_le (B := B) (z := z) (ty := tyN B z s) (z - s) s h2'
  have hr := srtI_rg (B s)
  have ht : 0 ≤ tyN B z s ∧ tyN B z s ≤ 4 ∧ (s < z → tyN B z s = srtI (B s)) ∧ (¬ s < z → tyN B z s = 0) := by
    unfold tyN
    by_cases q : s < z
    · rw [if_pos q]; exact ⟨by omega, by omega, fun _ => rfl, fun z9 => absurd q z9⟩
    · rw [if_neg q]; exact ⟨by omega, by omega, fun z9 => absurd z9 q, fun _ => rfl⟩
  have hn : rnN B z (tyN B z s) s = rnS B z (tyN B z s) (z - s) s := rfl
  refine ⟨⟨h2', ?_, ?_, ht.1, ht.2.1, fun hne => ?_, fun h22 j j1 j2 => ?_⟩, h1'⟩
  · unfold enN; (repeat' split) <;> omega
  · unfold enN
    split
    · omega
    · split
      · have : s < z := by
          by_cases q : s < z
          · exact q
          · exact absurd (ht.2.2.2 q) (by assumption)
        omega
      · exact h2'
  · have hs : s < z := by
      by_cases q : s < z
      · exact q
      · exact absurd (ht.2.2.2 q) hne
    unfold enN
    split
    · rw [rnN_go ⟨hs, (ht.2.2.1 hs).symm⟩]
      have := (rnS_le (B := B) (z := z) (ty := tyN B z s) (z - (s + 1)) (s + 1) (by omega)).1
      show s < rnS B z (tyN B z s) (z - (s + 1)) (s + 1)
      omega
    · first | omega | (rw [if_pos hne]; omega)
  · unfold enN at j2
    rw [if_pos (Or.inr h22)] at j2
    have := r3 j j1 j2
    exact srtI_2 (this.trans h22)
def vlT (B : Nat → Int) (tk : TK) : Int := if 2 < tk.2.2 - tk.1 then -1 else if tk.2.2 - tk.1 = 2 then 10 * (B tk.1 - 48) + (B (tk.1 + 1) - 48) else if tk.2.2 - tk.1 = 1 then B tk.1 - 48 else 0
theorem vlT_rg {B : Nat → Int} {z : Nat} {tk : TK} (h : wfT B z tk) (h2 : tk.2.1 = 2) : -1 ≤ vlT B tk ∧ vlT B tk ≤ 99 := by
  obtain ⟨a1, a2, a3, a4, a5, a6, a7⟩ := h
  have h6 := a6 (by omega)
  have h7 := a7 h2 tk.1 (Nat.le_refl _) h6
  unfold vlT
  split
  · omega
  · split
    · have h8 := a7 h2 (tk.1 + 1) (by omega) (by omega); omega
    · split <;> omega
def okT (B : Nat → Int) (tk : TK) (lo hi : Int) : Bool := decide (tk.2.1 = 2 ∧ lo ≤ vlT B tk ∧ vlT B tk ≤ hi)
theorem okT_t {B : Nat → Int} {tk : TK} {lo hi : Int} (h : okT B tk lo hi = true) : tk.2.1 = 2 ∧ lo ≤ vlT B tk ∧ vlT B tk ≤ hi := of_decide_eq_true h
def nx (B : Nat → Int) (z : Nat) (tk : TK) : TK := tkN B z tk.2.2
def nk (B : Nat → Int) (z : Nat) : Nat → TK → TK
  | 0, t => t
  | k + 1, t => nx B z (nk B z k t)
theorem nk_wf {B : Nat → Int} {z : Nat} {tk : TK} (h : wfT B z tk) : ∀ k, wfT B z (nk B z k tk) ∧ (1 ≤ k → tk.2.2 ≤ (nk B z k tk).1)
  | 0 => ⟨h, fun q => absurd q (by decide)⟩
  | k + 1 => by
    obtain ⟨h1, h2⟩ := nk_wf h k
    obtain ⟨h3, h4⟩ := tkN_wf B h1.2.2.1
    refine ⟨h3, fun _ => ?_⟩
    show tk.2.2 ≤ (tkN B z (nk B z k tk).2.2).1
    cases k with
    | zero => exact h4
    | succ k => have := h2 (by omega); have := h1.2.1; omega
def vk (B : Nat → Int) (z k : Nat) (tk : TK) : Int := vlT B (nk B z k tk)
def wdP (B : Nat → Int) (tk : TK) (w : Nat) : Prop := tk.2.1 = 1 ∧ tk.2.2 - tk.1 = strL.getD w 0 ∧ ∀ i, i < strL.getD w 0 → B (tk.1 + i) = wch w i
theorem wd_first : ∀ w : Fin 7, ∀ v : Fin 7, w ≠ v → wch w 0 ≠ wch v 0 := by decide +kernel
theorem wd_ex {B : Nat → Int} {tk : TK} {w v : Nat} (hw : w < 7) (hv : v < 7) (hne : w ≠ v) (h : wdP B tk w) : ¬ wdP B tk v := fun h2 => by
  have h3 := (str_len ⟨w, hw⟩).2.2.2; have h4 := (str_len ⟨v, hv⟩).2.2.2
  have h5 := h.2.2 0 h3; have h6 := h2.2.2 0 h4
  exact wd_first ⟨w, hw⟩ ⟨v, hv⟩ (fun e => hne (congrArg Fin.val e)) (h5.symm.trans h6)
abbrev RS : Type := Int × YA × TK
def sOne (B : Nat → Int) (z : Nat) (A : YA) (tk : TK) : RS := if 8 ≤ A.n then (((tk.1 : Nat) : Int), A, tk) else if okT B (nk B z 1 tk) 0 1 = false then ((((nk B z 1 tk).1 : Nat) : Int), A, tk) else if okT B (nk B z 2 tk) 0 5 = false then ((((nk B z 2 tk).1 : Nat) : Int), A, tk) else if okT B (nk B z 3 tk) 0 20 = false then ((((nk B z 3 tk).1 : Nat) : Int), A, tk) else if okT B (nk B z 4 tk) 0 20 = false then ((((nk B z 4 tk).1 : Nat) : Int), A, tk) else if okT B (nk B z 5 tk) 0 9 = false then ((((nk B z 5 tk).1 : Nat) : Int), A, tk) else (-1, addY A (vk B z 1 tk).toNat (vk B z 2 tk) (vk B z 3 tk) (vk B z 4 tk) (vk B z 5 tk), nk B z 6 tk)
def sTir (B : Nat → Int) (z : Nat) (A : YA) (tk : TK) : RS := if okT B (nk B z 1 tk) 0 (((A.n : Nat) : Int) - 1) = false then ((((nk B z 1 tk).1 : Nat) : Int), A, tk) else if okT B (nk B z 2 tk) 0 20 = false then ((((nk B z 2 tk).1 : Nat) : Int), A, tk) else (-1, A.setA 3 (vk B z 1 tk).toNat (vk B z 2 tk), nk B z 3 tk)
def sAsk (B : Nat → Int) (z : Nat) (A : YA) (tk : TK) (q : Nat) (lo hi : Int) : RS := if okT B (nk B z 1 tk) lo hi = false then ((((nk B z 1 tk).1 : Nat) : Int), A, tk) else (-1, A.setS q (vk B z 1 tk), nk B z 2 tk)
def sRun (B : Nat → Int) (z : Nat) (A : YA) (tk : TK) : RS := if okT B (nk B z 1 tk) 0 (((A.n : Nat) : Int) - 1) = false ∨ ((A.ch 0).length < 2 ∨ (A.ch 1).length < 2 ∨ A.sc 4 ≤ A.sc 6) ∨ A.co (vk B z 1 tk).toNat = A.tn then ((((nk B z 1 tk).1 : Nat) : Int), A, tk) else if okT B (nk B z 2 tk) 0 ((((A.ch A.tn).length : Nat) : Int) - 2) = false then ((((nk B z 2 tk).1 : Nat) : Int), A, tk) else if (nk B z 3 tk).2.1 = 2 then (if okT B (nk B z 3 tk) 0 1 = false ∨ oddsY A (vk B z 1 tk).toNat (vk B z 2 tk).toNat ≤ 0 then ((((nk B z 3 tk).1 : Nat) : Int), A, tk) else (-1, runT A (vk B z 1 tk).toNat (vk B z 2 tk).toNat (takenY A (vk B z 2 tk).toNat (vk B z 3 tk).toNat), nk B z 4 tk)) else if oddsY A (vk B z 1 tk).toNat (vk B z 2 tk).toNat < 1000000 then (-1, runH A (vk B z 1 tk).toNat (vk B z 2 tk).toNat, nk B z 3 tk) else ((((nk B z 3 tk).1 : Nat) : Int), A, tk)
noncomputable def stR (B : Nat → Int) (z : Nat) (A : YA) (tk : TK) : RS := @ite _ (wdP B tk 0) (Classical.propDecidable _) (sOne B z A tk) (@ite _ (wdP B tk 1) (Classical.propDecidable _) (sTir B z A tk) (@ite _ (wdP B tk 2) (Classical.propDecidable _) (sRun B z A tk) (@ite _ (wdP B tk 3) (Classical.propDecidable _) (sAsk B z A tk 1 0 30) (@ite _ (wdP B tk 4) (Classical.propDecidable _) (sAsk B z A tk 2 1 10) (@ite _ (wdP B tk 5) (Classical.propDecidable _) (sAsk B z A tk 3 0 1) (@ite _ (wdP B tk 6) (Classical.propDecidable _) (sAsk B z A tk 4 1 99) (((tk.1 : Nat) : Int), A, tk)))))))
noncomputable def rdZ (B : Nat → Int) (z : Nat) : Nat → Nat → YA → TK → Int × YA × Nat
  | 0, _, A, _ => (-1, A, 0)
  | k + 1, n, A, tk => if (stR B z A tk).1 ≠ -1 then ((stR B z A tk).1, A, n) else if (stR B z A tk).2.2.2.1 = 0 then (-1, (stR B z A tk).2.1, n) else if (stR B z A tk).2.2.2.1 ≠ 3 then ((((stR B z A tk).2.2.1 : Nat) : Int), A, n) else rdZ B z k (n + 1) (stR B z A tk).2.1 (nx B z (stR B z A tk).2.2)
theorem stR_w {B : Nat → Int} {z : Nat} {A : YA} {tk : TK} {w : Nat} (h : wdP B tk w) (hw : w < 7) : stR B z A tk = (if w = 0 then sOne B z A tk else if w = 1 then sTir B z A tk else if w = 2 then sRun B z A tk else if w = 3 then sAsk B z A tk 1 0 30 else if w = 4 then sAsk B z A tk 2 1 10 else if w = 5 then sAsk B z A tk 3 0 1 else sAsk B z A tk 4 1 99) := by
  have hx := fun (v : Nat) (hv : v < 7) (hne : w ≠ v) => wd_ex hw hv hne h
  unfold stR
  rcases (show w = 0 ∨ w = 1 ∨ w = 2 ∨ w = 3 ∨ w = 4 ∨ w = 5 ∨ w = 6 by omega) with rfl | rfl | rfl | rfl | rfl | rfl | rfl
  · rw [if_pos h]; rfl
  · rw [if_neg (hx 0 (by decide) (by decide)), if_pos h]; rfl
  · rw [if_neg (hx 0 (by decide) (by decide)), if_neg (hx 1 (by decide) (by decide)), if_pos h]; rfl
  · rw [if_neg (hx 0 (by decide) (by decide)), if_neg (hx 1 (by decide) (by decide)), if_neg (hx 2 (by decide) (by decide)), if_pos h]; rfl
  · rw [if_neg (hx 0 (by decide) (by decide)), if_neg (hx 1 (by decide) (by decide)), if_neg (hx 2 (by decide) (by decide)), if_neg (hx 3 (by decide) (by decide)), if_pos h]; rfl
  · rw [if_neg (hx 0 (by decide) (by decide)), if_neg (hx 1 (by decide) (by decide)), if_neg (hx 2 (by decide) (by decide)), if_neg (hx 3 (by decide) (by decide)), if_neg (hx 4 (by decide) (by decide)), if_pos h]; rfl
  · rw [if_neg (hx 0 (by decide) (by decide)), if_neg (hx 1 (by decide) (by decide)), if_neg (hx 2 (by decide) (by decide)), if_neg (hx 3 (by decide) (by decide)), if_neg (hx 4 (by decide) (by decide)), if_neg (hx 5 (by decide) (by decide)), if_pos h]; rfl
theorem stR_n {B : Nat → Int} {z : Nat} {A : YA} {tk : TK} (h : ∀ w, w < 7 → ¬ wdP B tk w) : stR B z A tk = (((tk.1 : Nat) : Int), A, tk) := by
  unfold stR
  rw [if_neg (h 0 (by decide)), if_neg (h 1 (by decide)), if_neg (h 2 (by decide)), if_neg (h 3 (by decide)), if_neg (h 4 (by decide)), if_neg (h 5 (by decide)), if_neg (h 6 (by decide))]
/-- what holds behind a statement -/
def okS (B : Nat → Int) (z : Nat) (tk : TK) (R : RS) : Prop := (0 ≤ R.1 ∧ R.1 ≤ 250) ∨ (R.1 = -1 ∧ WFY R.2.1 ∧ wfT B z R.2.2 ∧ tk.2.2 ≤ R.2.2.1)
theorem okS_f {B : Nat → Int} {z k : Nat} {A : YA} {tk t2 : TK} (h : wfT B z tk) (hz : z ≤ 250) : okS B z tk ((((nk B z k tk).1 : Nat) : Int), A, t2) := Or.inl ⟨by show (0 : Int) ≤ ((_ : Nat) : Int); omega, by show ((_ : Nat) : Int) ≤ 250; have := (nk_wf h k).1.1; omega⟩
theorem okS_t {B : Nat → Int} {z k : Nat} {A : YA} {tk : TK} (h : wfT B z tk) (hk : 1 ≤ k) (hA : WFY A) : okS B z tk (-1, A, nk B z k tk) := Or.inr ⟨rfl, hA, (nk_wf h k).1, (nk_wf h k).2 hk⟩
theorem vk_rg {B : Nat → Int} {z k : Nat} {tk : TK} {lo hi : Int} (h : ¬ okT B (nk B z k tk) lo hi = false) : lo ≤ vk B z k tk ∧ vk B z k tk ≤ hi := by
  have := okT_t (Bool.of_not_eq_false h)
  exact this.2
theorem stR_ok {B : Nat → Int} {z : Nat} {A : YA} {tk : TK} (hW : WFY A) (h : wfT B z tk) (hz : z ≤ 250) : okS B z tk (stR B z A tk) := by
  have hf := fun k (t2 : TK) => okS_f (k := k) (A := A) (t2 := t2) h hz
  have hask : ∀ q lo hi, (∀ v, lo ≤ v ∧ v ≤ hi → WFY (A.setS q v)) → okS B z tk (sAsk B z A tk q lo hi) := fun q lo hi hq => by
    unfold sAsk
    split
    · exact hf 1 tk
    · rename_i e; exact okS_t h (by decide) (hq _ (vk_rg e))
  have hn8 := hW.n8
  unfold stR
  split
  · unfold sOne
    split
    · exact hf 0 tk
    · split
      · exact hf 1 tk
      · split
        · exact hf 2 tk
        · split
          · exact hf 3 tk
          · split
            · exact hf 4 tk
            · split
              · exact hf 5 tk
              · rename_i e0 e1 e2 e3 e4 e5
                have r1 := vk_rg e1; have r2 := vk_rg e2; have r3 := vk_rg e3; have r4 := vk_rg e4; have r5 := vk_rg e5
                exact okS_t h (by decide) (addY_wf hW (by omega) (by omega) r2 r3 r4 r5)
  · split
    · unfold sTir
      split
      · exact hf 1 tk
      · split
        · exact hf 2 tk
        · rename_i e1 e2
          exact okS_t h (by decide) (setA_wf hW (Or.inr (Or.inr rfl)) (vk_rg e2))
    · split
      · unfold sRun
        split
        · exact hf 1 tk
        · split
          · exact hf 2 tk
          · rename_i e1 e2
            have g1 : ¬ okT B (nk B z 1 tk) 0 (((A.n : Nat) : Int) - 1) = false := fun q => e1 (Or.inl q)
            have r1 := vk_rg g1; have r2 := vk_rg e2
            have ho : ¬ overY A := fun q => e1 (Or.inr (Or.inl q))
            have hc : A.co (vk B z 1 tk).toNat ≠ A.tn := fun q => e1 (Or.inr (Or.inr q))
            split
            · split
              · exact hf 3 tk
              · rename_i e3
                have g3 : ¬ okT B (nk B z 3 tk) 0 1 = false := fun q => e3 (Or.inl q)
                have r3 := vk_rg g3
                exact okS_t h (by decide) (runT_wf hW (by omega) hc (by omega) ho (taken_mem hW (by omega) (by omega)))
            · split
              · exact okS_t h (by decide) (runH_wf hW (by omega) hc (by omega) ho)
              · exact hf 3 tk
      · split
        · exact hask _ _ _ (fun v hv => setS_wf hW (by omega))
        · split
          · exact hask _ _ _ (fun v hv => setS_wf hW (by omega))
          · split
            · exact hask _ _ _ (fun v hv => setS_wf hW (by omega))
            · split
              · exact hask _ _ _ (fun v hv => setS_wf hW (by omega))
              · exact hf 0 tk
