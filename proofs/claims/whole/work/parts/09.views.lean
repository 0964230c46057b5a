section
variable {g : WG} {x : CX} {own : String} {cc : ByteArray} {d : Nat} {pc : Nat} {ls st : List MVal} {T : TT} {M : MM} {sz nc ns : Nat}
theorem J_getI2 (h : OKx g x own cc d) {idx ci j a : Nat} {v : Int} (hF : FLk own idx ci j) (hC : CLok ci) (hd : decode cc pc = .ok (.getfield idx, 3)) (hT : (T a).1 = ci) (hci : ci < 8) (hn : numT (fty ci j) = true) (hv : M a j = v)
    (k : Jd g x (pc + 3) ls (vI v :: st) T M sz nc ns) : Jd g x pc ls (vR a :: st) T M sz nc ns := by
  subst hv; exact J_getI h hF hC hd hT hci hn k
theorem J_iald2 (h : OKx g x own cc d) {a : Nat} {i v : Int} (n : Nat) (hd : decode cc pc = .ok (.iaload, 1)) (hT : (T a).1 = 10) (hn : i = (n : Int)) (hlt : n < (T a).2.1) (hv : M a n = v)
    (k : Jd g x (pc + 1) ls (vI v :: st) T M sz nc ns) : Jd g x pc ls (vI i :: vR a :: st) T M sz nc ns := by
  subst hv; exact J_iald h n hd hT hn hlt k
theorem J_zald2 (h : OKx g x own cc d) {a : Nat} {i v : Int} (n : Nat) (hd : decode cc pc = .ok (.baload, 1)) (hT : (T a).1 = 12) (hn : i = (n : Int)) (hlt : n < (T a).2.1) (hv : M a n = v)
    (k : Jd g x (pc + 1) ls (vI v :: st) T M sz nc ns) : Jd g x pc ls (vI i :: vR a :: st) T M sz nc ns := by
  subst hv; exact J_zald h n hd hT hn hlt k
theorem J_lald2 (h : OKx g x own cc d) {a : Nat} {i v : Int} (n : Nat) (hd : decode cc pc = .ok (.laload, 1)) (hT : (T a).1 = 11) (hn : i = (n : Int)) (hlt : n < (T a).2.1) (hv : M a n = v)
    (k : Jd g x (pc + 1) ls (vL v :: st) T M sz nc ns) : Jd g x pc ls (vI i :: vR a :: st) T M sz nc ns := by
  subst hv; exact J_lald h n hd hT hn hlt k
theorem J_alen2 (h : OKx g x own cc d) {a : Nat} {v : Int} (hd : decode cc pc = .ok (.arraylength, 1)) (hT : (T a).1 = 10) (hv : (((T a).2.1 : Nat) : Int) = v ∧ (T a).2.1 < 2 ^ 31)
    (k : Jd g x (pc + 1) ls (vI v :: st) T M sz nc ns) : Jd g x pc ls (vR a :: st) T M sz nc ns := by
  obtain ⟨rfl, h2⟩ := hv; exact J_alen h hd hT h2 k
end
def isUv (v : MVal) : Bool := match v with
  | .inr (.inr (.inr false)) => true
  | _ => false
theorem isUv_ne {v : MVal} (h : isUv v = false) : v ≠ vU := fun e => by subst e; cases h
theorem Ct_of2 {g : WG} {d : Nat} {μ : MD} {as ls : List MVal} {T : TT} {M : MM} {sz mc ms : Nat} {Q : MVal → TT → MM → Nat → Prop} (hM : MDok μ) (hu : as.all (fun v => !isUv v) = true) (hn : (entL as).length ≤ μ.2.2.1) (hls : entL as ++ List.replicate (μ.2.2.1 - (entL as).length) vU = ls)
    (body : ∀ x : CX, OKx g x μ.1.cls μ.2.1 d → RTx g x μ.2.2.2.1 Q → x.2.2.2.2.2.2.2.2.1.name = μ.1.name → Jd g x 0 ls [] T M sz mc ms) : Ct g d μ as T M sz mc ms Q :=
  Ct_of hM (fun v hv => isUv_ne (by have := List.all_eq_true.mp hu v hv; simpa using this)) hn hls body
theorem jinc1 {a : Int} (h1 : -2147483648 ≤ a) (h2 : a < 2147483647) : w32 (a + (Int32.ofInt 1).toInt) = a + 1 := by
  rw [show (Int32.ofInt 1).toInt = 1 from rfl]; exact w32_id (by omega) (by omega)
theorem jinc6 {a : Int} (h1 : -2147483648 ≤ a) (h2 : a < 2147483641) : w32 (a + (Int32.ofInt 6).toInt) = a + 6 := by
  rw [show (Int32.ofInt 6).toInt = 6 from rfl]; exact w32_id (by omega) (by omega)
theorem jincm1 {a : Int} (h1 : -2147483647 ≤ a) (h2 : a < 2147483648) : w32 (a + (Int32.ofInt (-1)).toInt) = a - 1 := by
  rw [show (Int32.ofInt (-1)).toInt = -1 from rfl]; exact w32_id (by omega) (by omega)
-- a yard, as both sides have it: how many people; kind, grip, weight, tired, a of each; the chains; yards (1), spread, wrists, bell, turn, runs, seed (7)
abbrev YA : Type := Nat × (Nat → Nat → Int) × (Nat → List Nat) × (Nat → Int)
abbrev YA.n (A : YA) : Nat := A.1
abbrev YA.att (A : YA) : Nat → Nat → Int := A.2.1
abbrev YA.ch (A : YA) : Nat → List Nat := A.2.2.1
abbrev YA.sc (A : YA) : Nat → Int := A.2.2.2
/-- which chain somebody is in -/
def YA.co (A : YA) (p : Nat) : Nat := if p ∈ A.ch 0 then 0 else 1
def WFY (A : YA) : Prop :=
  A.n ≤ 8 ∧ (∀ c, c < 2 → ∀ p ∈ A.ch c, p < A.n) ∧ (∀ p, p < A.n → p ∈ A.ch 0 ∨ p ∈ A.ch 1) ∧ (∀ c, c < 2 → (A.ch c).Nodup) ∧ (∀ p, p ∈ A.ch 0 → p ∉ A.ch 1) ∧ (A.ch 0).length + (A.ch 1).length = A.n ∧
  (∀ p, p < A.n → (0 ≤ A.att 0 p ∧ A.att 0 p ≤ 5) ∧ (0 ≤ A.att 1 p ∧ A.att 1 p ≤ 20) ∧ (0 ≤ A.att 2 p ∧ A.att 2 p ≤ 20) ∧ (0 ≤ A.att 3 p ∧ A.att 3 p ≤ 20) ∧ (0 ≤ A.att 4 p ∧ A.att 4 p ≤ 9)) ∧
  (0 ≤ A.sc 1 ∧ A.sc 1 ≤ 30) ∧ (1 ≤ A.sc 2 ∧ A.sc 2 ≤ 10) ∧ (0 ≤ A.sc 3 ∧ A.sc 3 ≤ 1) ∧ (1 ≤ A.sc 4 ∧ A.sc 4 ≤ 99) ∧ (0 ≤ A.sc 5 ∧ A.sc 5 ≤ 1) ∧ (0 ≤ A.sc 6 ∧ A.sc 6 ≤ 99) ∧ (-2147483648 ≤ A.sc 7 ∧ A.sc 7 ≤ 2147483647)
theorem WFY.n8 {A : YA} (h : WFY A) : A.n ≤ 8 := h.1
theorem WFY.lt {A : YA} (h : WFY A) {c p : Nat} (hc : c < 2) (hp : p ∈ A.ch c) : p < A.n := h.2.1 c hc p hp
theorem WFY.cov {A : YA} (h : WFY A) {p : Nat} (hp : p < A.n) : p ∈ A.ch 0 ∨ p ∈ A.ch 1 := h.2.2.1 p hp
theorem WFY.nd {A : YA} (h : WFY A) {c : Nat} (hc : c < 2) : (A.ch c).Nodup := h.2.2.2.1 c hc
theorem WFY.dj {A : YA} (h : WFY A) {p : Nat} (hp : p ∈ A.ch 0) : p ∉ A.ch 1 := h.2.2.2.2.1 p hp
theorem WFY.len {A : YA} (h : WFY A) : (A.ch 0).length + (A.ch 1).length = A.n := h.2.2.2.2.2.1
theorem WFY.len8 {A : YA} (h : WFY A) {c : Nat} (hc : c < 2) : (A.ch c).length ≤ 8 := by
  have h1 := h.len; have h2 := h.n8
  have : c = 0 ∨ c = 1 := by omega
  rcases this with rfl | rfl <;> omega
theorem WFY.lenN {A : YA} (h : WFY A) {c : Nat} (hc : c < 2) : (A.ch c).length ≤ A.n := by
  have h1 := h.len
  have : c = 0 ∨ c = 1 := by omega
  rcases this with rfl | rfl <;> omega
theorem WFY.at {A : YA} (h : WFY A) {c k : Nat} (hc : c < 2) (hk : k < (A.ch c).length) : (A.ch c).getD k 0 < A.n := by
  refine h.lt hc ?_
  rw [List.getD_eq_getElem?_getD, List.getElem?_eq_getElem hk]
  exact List.getElem_mem hk
theorem WFY.mem {A : YA} (h : WFY A) {c k : Nat} (hc : c < 2) (hk : k < (A.ch c).length) : (A.ch c).getD k 0 ∈ A.ch c := by
  rw [List.getD_eq_getElem?_getD, List.getElem?_eq_getElem hk]
  exact List.getElem_mem hk
theorem YA.co2 (A : YA) (p : Nat) : A.co p < 2 := by unfold YA.co; split <;> omega
theorem WFY.co {A : YA} (h : WFY A) {c p : Nat} (hc : c < 2) (hp : p ∈ A.ch c) : A.co p = c := by
  have : c = 0 ∨ c = 1 := by omega
  unfold YA.co
  rcases this with rfl | rfl
  · rw [if_pos hp]
  · rw [if_neg (fun q => h.dj q hp)]
theorem WFY.mco {A : YA} (h : WFY A) {p : Nat} (hp : p < A.n) : p ∈ A.ch (A.co p) := by
  unfold YA.co
  split
  · assumption
  · exact (h.cov hp).resolve_left (by assumption)
theorem WFY.cos {A : YA} (h : WFY A) {p c : Nat} (hp : p < A.n) (hc : A.co p = c) : p ∈ A.ch c := hc ▸ h.mco hp

theorem WFY.kd {A : YA} (h : WFY A) {p : Nat} (hp : p < A.n) : 0 ≤ A.att 0 p ∧ A.att 0 p ≤ 5 := (h.2.2.2.2.2.2.1 p hp).1
theorem WFY.gr {A : YA} (h : WFY A) {p : Nat} (hp : p < A.n) : 0 ≤ A.att 1 p ∧ A.att 1 p ≤ 20 := (h.2.2.2.2.2.2.1 p hp).2.1
theorem WFY.we {A : YA} (h : WFY A) {p : Nat} (hp : p < A.n) : 0 ≤ A.att 2 p ∧ A.att 2 p ≤ 20 := (h.2.2.2.2.2.2.1 p hp).2.2.1
theorem WFY.ti {A : YA} (h : WFY A) {p : Nat} (hp : p < A.n) : 0 ≤ A.att 3 p ∧ A.att 3 p ≤ 20 := (h.2.2.2.2.2.2.1 p hp).2.2.2.1
theorem WFY.by_ {A : YA} (h : WFY A) {p : Nat} (hp : p < A.n) : 0 ≤ A.att 4 p ∧ A.att 4 p ≤ 9 := (h.2.2.2.2.2.2.1 p hp).2.2.2.2
theorem WFY.s1 {A : YA} (h : WFY A) : 0 ≤ A.sc 1 ∧ A.sc 1 ≤ 30 := h.2.2.2.2.2.2.2.1
theorem WFY.s2 {A : YA} (h : WFY A) : 1 ≤ A.sc 2 ∧ A.sc 2 ≤ 10 := h.2.2.2.2.2.2.2.2.1
theorem WFY.s3 {A : YA} (h : WFY A) : 0 ≤ A.sc 3 ∧ A.sc 3 ≤ 1 := h.2.2.2.2.2.2.2.2.2.1
theorem WFY.s4 {A : YA} (h : WFY A) : 1 ≤ A.sc 4 ∧ A.sc 4 ≤ 99 := h.2.2.2.2.2.2.2.2.2.2.1
theorem WFY.s5 {A : YA} (h : WFY A) : 0 ≤ A.sc 5 ∧ A.sc 5 ≤ 1 := h.2.2.2.2.2.2.2.2.2.2.2.1
theorem WFY.s6 {A : YA} (h : WFY A) : 0 ≤ A.sc 6 ∧ A.sc 6 ≤ 99 := h.2.2.2.2.2.2.2.2.2.2.2.2.1
theorem WFY.s7 {A : YA} (h : WFY A) : (-2147483648) ≤ A.sc 7 ∧ A.sc 7 ≤ 2147483647 := h.2.2.2.2.2.2.2.2.2.2.2.2.2
-- the class's yard at r: r itself, kind .. home (r + 1 .. r + 6), line (r + 7; its rows r + 8, r + 9), size (r + 10)
def YT (T : TT) (r : Nat) : Prop := (T r).1 = 5 ∧ (∀ j, j < 6 → (T r).2.2 j = some (r + 1 + j)) ∧ (T r).2.2 6 = some (r + 7) ∧ (T r).2.2 7 = some (r + 10) ∧ (∀ j, j < 6 → (T (r + 1 + j)).1 = 10 ∧ (T (r + 1 + j)).2.1 = 8) ∧ ((T (r + 7)).1 = 13 ∧ (T (r + 7)).2.1 = 2 ∧ ∀ c, c < 2 → (T (r + 7)).2.2 c = some (r + 8 + c)) ∧ (∀ c, c < 2 → (T (r + 8 + c)).1 = 10 ∧ (T (r + 8 + c)).2.1 = 8) ∧ (T (r + 10)).1 = 10 ∧ (T (r + 10)).2.1 = 2
theorem YT.o {T : TT} {r : Nat} (h : YT T r) : (T r).1 = 5 := h.1
theorem YT.r6 {T : TT} {r : Nat} (h : YT T r) : (T r).2.2 6 = some (r + 7) := h.2.2.1
theorem YT.r7 {T : TT} {r : Nat} (h : YT T r) : (T r).2.2 7 = some (r + 10) := h.2.2.2.1
theorem YT.k7 {T : TT} {r : Nat} (h : YT T r) : (T (r + 7)).1 = 13 := h.2.2.2.2.2.1.1
theorem YT.l7 {T : TT} {r : Nat} (h : YT T r) {c : Nat} (hc : c < 2) : c < (T (r + 7)).2.1 := by rw [h.2.2.2.2.2.1.2.1]; exact hc
theorem YT.f7 {T : TT} {r : Nat} (h : YT T r) {c : Nat} (hc : c < 2) : (T (r + 7)).2.2 c = some (r + 8 + c) := h.2.2.2.2.2.1.2.2 c hc
theorem YT.kl {T : TT} {r : Nat} (h : YT T r) {c : Nat} (hc : c < 2) : (T (r + 8 + c)).1 = 10 := (h.2.2.2.2.2.2.1 c hc).1
theorem YT.ll {T : TT} {r : Nat} (h : YT T r) {c k : Nat} (hc : c < 2) (hk : k < 8) : k < (T (r + 8 + c)).2.1 := by rw [(h.2.2.2.2.2.2.1 c hc).2]; exact hk
theorem YT.k10 {T : TT} {r : Nat} (h : YT T r) : (T (r + 10)).1 = 10 := h.2.2.2.2.2.2.2.1
theorem YT.l10 {T : TT} {r : Nat} (h : YT T r) {c : Nat} (hc : c < 2) : c < (T (r + 10)).2.1 := by rw [h.2.2.2.2.2.2.2.2]; exact hc

theorem YT.r0 {T : TT} {r : Nat} (h : YT T r) : (T r).2.2 0 = some (r + 1) := h.2.1 0 (by decide)
theorem YT.k1 {T : TT} {r : Nat} (h : YT T r) : (T (r + 1)).1 = 10 := (h.2.2.2.2.1 0 (by decide)).1
theorem YT.l1 {T : TT} {r : Nat} (h : YT T r) {i : Nat} (hi : i < 8) : i < (T (r + 1)).2.1 := by have e := (h.2.2.2.2.1 0 (by decide)).2; have e2 : (T (r + 1)).2.1 = 8 := e; rw [e2]; exact hi
theorem YT.r1 {T : TT} {r : Nat} (h : YT T r) : (T r).2.2 1 = some (r + 2) := h.2.1 1 (by decide)
theorem YT.k2 {T : TT} {r : Nat} (h : YT T r) : (T (r + 2)).1 = 10 := (h.2.2.2.2.1 1 (by decide)).1
theorem YT.l2 {T : TT} {r : Nat} (h : YT T r) {i : Nat} (hi : i < 8) : i < (T (r + 2)).2.1 := by have e := (h.2.2.2.2.1 1 (by decide)).2; have e2 : (T (r + 2)).2.1 = 8 := e; rw [e2]; exact hi
theorem YT.r2 {T : TT} {r : Nat} (h : YT T r) : (T r).2.2 2 = some (r + 3) := h.2.1 2 (by decide)
theorem YT.k3 {T : TT} {r : Nat} (h : YT T r) : (T (r + 3)).1 = 10 := (h.2.2.2.2.1 2 (by decide)).1
theorem YT.l3 {T : TT} {r : Nat} (h : YT T r) {i : Nat} (hi : i < 8) : i < (T (r + 3)).2.1 := by have e := (h.2.2.2.2.1 2 (by decide)).2; have e2 : (T (r + 3)).2.1 = 8 := e; rw [e2]; exact hi
theorem YT.r3 {T : TT} {r : Nat} (h : YT T r) : (T r).2.2 3 = some (r + 4) := h.2.1 3 (by decide)
theorem YT.k4 {T : TT} {r : Nat} (h : YT T r) : (T (r + 4)).1 = 10 := (h.2.2.2.2.1 3 (by decide)).1
theorem YT.l4 {T : TT} {r : Nat} (h : YT T r) {i : Nat} (hi : i < 8) : i < (T (r + 4)).2.1 := by have e := (h.2.2.2.2.1 3 (by decide)).2; have e2 : (T (r + 4)).2.1 = 8 := e; rw [e2]; exact hi
theorem YT.r4 {T : TT} {r : Nat} (h : YT T r) : (T r).2.2 4 = some (r + 5) := h.2.1 4 (by decide)
theorem YT.k5 {T : TT} {r : Nat} (h : YT T r) : (T (r + 5)).1 = 10 := (h.2.2.2.2.1 4 (by decide)).1
theorem YT.l5 {T : TT} {r : Nat} (h : YT T r) {i : Nat} (hi : i < 8) : i < (T (r + 5)).2.1 := by have e := (h.2.2.2.2.1 4 (by decide)).2; have e2 : (T (r + 5)).2.1 = 8 := e; rw [e2]; exact hi
theorem YT.r5 {T : TT} {r : Nat} (h : YT T r) : (T r).2.2 5 = some (r + 6) := h.2.1 5 (by decide)
theorem YT.k6 {T : TT} {r : Nat} (h : YT T r) : (T (r + 6)).1 = 10 := (h.2.2.2.2.1 5 (by decide)).1
theorem YT.l6 {T : TT} {r : Nat} (h : YT T r) {i : Nat} (hi : i < 8) : i < (T (r + 6)).2.1 := by have e := (h.2.2.2.2.1 5 (by decide)).2; have e2 : (T (r + 6)).2.1 = 8 := e; rw [e2]; exact hi
/-- its numbers -/
def YN (M : MM) (r : Nat) (A : YA) : Prop := (∀ f, f < 5 → ∀ i, i < A.n → M (r + 1 + f) i = A.att f i) ∧ (∀ p, p < A.n → M (r + 6) p = ((A.co p : Nat) : Int)) ∧ (∀ c, c < 2 → ∀ k, k < (A.ch c).length → M (r + 8 + c) k = (((A.ch c).getD k 0 : Nat) : Int)) ∧ (∀ c, c < 2 → M (r + 10) c = (((A.ch c).length : Nat) : Int)) ∧ M r 8 = ((A.n : Nat) : Int) ∧ ∀ q, 1 ≤ q → q < 8 → M r (8 + q) = A.sc q
theorem YN.hm {M : MM} {r : Nat} {A : YA} (h : YN M r A) {p : Nat} (hp : p < A.n) : M (r + 6) p = ((A.co p : Nat) : Int) := h.2.1 p hp
theorem YN.ln {M : MM} {r : Nat} {A : YA} (h : YN M r A) {c k : Nat} (hc : c < 2) (hk : k < (A.ch c).length) : M (r + 8 + c) k = (((A.ch c).getD k 0 : Nat) : Int) := h.2.2.1 c hc k hk
theorem YN.sz {M : MM} {r : Nat} {A : YA} (h : YN M r A) {c : Nat} (hc : c < 2) : M (r + 10) c = (((A.ch c).length : Nat) : Int) := h.2.2.2.1 c hc
theorem YN.pp {M : MM} {r : Nat} {A : YA} (h : YN M r A) : M r 8 = ((A.n : Nat) : Int) := h.2.2.2.2.1

theorem YN.kd {M : MM} {r : Nat} {A : YA} (h : YN M r A) {i : Nat} (hi : i < A.n) : M (r + 1) i = A.att 0 i := h.1 0 (by decide) i hi
theorem YN.gr {M : MM} {r : Nat} {A : YA} (h : YN M r A) {i : Nat} (hi : i < A.n) : M (r + 2) i = A.att 1 i := h.1 1 (by decide) i hi
theorem YN.we {M : MM} {r : Nat} {A : YA} (h : YN M r A) {i : Nat} (hi : i < A.n) : M (r + 3) i = A.att 2 i := h.1 2 (by decide) i hi
theorem YN.ti {M : MM} {r : Nat} {A : YA} (h : YN M r A) {i : Nat} (hi : i < A.n) : M (r + 4) i = A.att 3 i := h.1 3 (by decide) i hi
theorem YN.by_ {M : MM} {r : Nat} {A : YA} (h : YN M r A) {i : Nat} (hi : i < A.n) : M (r + 5) i = A.att 4 i := h.1 4 (by decide) i hi
theorem YN.s1 {M : MM} {r : Nat} {A : YA} (h : YN M r A) : M r 9 = A.sc 1 := h.2.2.2.2.2 1 (by decide) (by decide)
theorem YN.s2 {M : MM} {r : Nat} {A : YA} (h : YN M r A) : M r 10 = A.sc 2 := h.2.2.2.2.2 2 (by decide) (by decide)
theorem YN.s3 {M : MM} {r : Nat} {A : YA} (h : YN M r A) : M r 11 = A.sc 3 := h.2.2.2.2.2 3 (by decide) (by decide)
theorem YN.s4 {M : MM} {r : Nat} {A : YA} (h : YN M r A) : M r 12 = A.sc 4 := h.2.2.2.2.2 4 (by decide) (by decide)
theorem YN.s5 {M : MM} {r : Nat} {A : YA} (h : YN M r A) : M r 13 = A.sc 5 := h.2.2.2.2.2 5 (by decide) (by decide)
theorem YN.s6 {M : MM} {r : Nat} {A : YA} (h : YN M r A) : M r 14 = A.sc 6 := h.2.2.2.2.2 6 (by decide) (by decide)
theorem YN.s7 {M : MM} {r : Nat} {A : YA} (h : YN M r A) : M r 15 = A.sc 7 := h.2.2.2.2.2 7 (by decide) (by decide)
abbrev YA.tn (A : YA) : Nat := (A.sc 5).toNat
theorem WFY.tn2 {A : YA} (h : WFY A) : A.tn < 2 := by have := h.s5; show (A.sc 5).toNat < 2; omega
theorem WFY.tni {A : YA} (h : WFY A) : A.sc 5 = ((A.tn : Nat) : Int) := by have := h.s5; show A.sc 5 = (((A.sc 5).toNat : Nat) : Int); omega
theorem YN.tn {M : MM} {r : Nat} {A : YA} (h : YN M r A) (hW : WFY A) : M r 13 = ((A.tn : Nat) : Int) := by rw [h.s5]; exact hW.tni
/-- nothing changed but the yard at r -/
def FrY (r : Nat) (M M' : MM) : Prop := ∀ a, (a < r ∨ r + 11 ≤ a) → M' a = M a
theorem FrY.rf {r : Nat} {M : MM} : FrY r M M := fun _ _ => rfl
theorem FrY.tr {r : Nat} {M M1 M2 : MM} (h1 : FrY r M M1) (h2 : FrY r M1 M2) : FrY r M M2 := fun a ha => (h2 a ha).trans (h1 a ha)
theorem FrY.up {r : Nat} {M M1 : MM} (h : FrY r M M1) {k i : Nat} (hk : k < 11) (v : Int) : FrY r M (up2 M1 (r + k) i v) := fun a ha => by
  rw [← h a ha]
  funext j
  have : ¬ (a = r + k ∧ j = i) := fun q => by omega
  simp [up2, this]

