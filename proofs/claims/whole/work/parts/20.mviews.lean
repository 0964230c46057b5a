section
variable {g : WG} {x : CX} {own : String} {cc : ByteArray} {d : Nat} {pc : Nat} {ls st : List MVal} {T : TT} {M : MM} {sz nc ns : Nat}
theorem jcmp_eq (a b : Int) : (jcmp a b = 0) ↔ (a = b) := by unfold jcmp; constructor <;> intro h <;> (repeat' split at *) <;> omega
theorem J_lc_eq (h : OKx g x own cc d) {a b off : Int} {tgt : Nat} (hd : decode cc pc = .ok (.lcmp, 1)) (hd2 : decode cc (pc + 1) = .ok (.ifCond .eq off, 3)) (ht : ((pc + 1 : Nat) : Int) + off = (tgt : Int))
    (kt : a = b → Jd g x tgt ls st T M sz nc ns) (kf : ¬ (a = b) → Jd g x (pc + 4) ls st T M sz nc ns) : Jd g x pc ls (vL b :: vL a :: st) T M sz nc ns :=
  J_lcmp h hd (J_if_eq h hd2 ht (fun q => kt ((jcmp_eq a b).mp q)) (fun q => kf (fun z => q ((jcmp_eq a b).mpr z))))
theorem jcmp_ne (a b : Int) : (jcmp a b ≠ 0) ↔ (a ≠ b) := by unfold jcmp; constructor <;> intro h <;> (repeat' split at *) <;> omega
theorem J_lc_ne (h : OKx g x own cc d) {a b off : Int} {tgt : Nat} (hd : decode cc pc = .ok (.lcmp, 1)) (hd2 : decode cc (pc + 1) = .ok (.ifCond .ne off, 3)) (ht : ((pc + 1 : Nat) : Int) + off = (tgt : Int))
    (kt : a ≠ b → Jd g x tgt ls st T M sz nc ns) (kf : a = b → Jd g x (pc + 4) ls st T M sz nc ns) : Jd g x pc ls (vL b :: vL a :: st) T M sz nc ns :=
  J_lcmp h hd (J_if_ne h hd2 ht (fun q => kt ((jcmp_ne a b).mp q)) (fun q => kf (by have := (jcmp_eq a b).mp q; exact this)))
theorem jcmp_lt (a b : Int) : (jcmp a b < 0) ↔ (a < b) := by unfold jcmp; constructor <;> intro h <;> (repeat' split at *) <;> omega
theorem J_lc_lt (h : OKx g x own cc d) {a b off : Int} {tgt : Nat} (hd : decode cc pc = .ok (.lcmp, 1)) (hd2 : decode cc (pc + 1) = .ok (.ifCond .lt off, 3)) (ht : ((pc + 1 : Nat) : Int) + off = (tgt : Int))
    (kt : a < b → Jd g x tgt ls st T M sz nc ns) (kf : ¬ (a < b) → Jd g x (pc + 4) ls st T M sz nc ns) : Jd g x pc ls (vL b :: vL a :: st) T M sz nc ns :=
  J_lcmp h hd (J_if_lt h hd2 ht (fun q => kt ((jcmp_lt a b).mp q)) (fun q => kf (fun z => q ((jcmp_lt a b).mpr z))))
theorem jcmp_ge (a b : Int) : (0 ≤ jcmp a b) ↔ (b ≤ a) := by unfold jcmp; constructor <;> intro h <;> (repeat' split at *) <;> omega
theorem J_lc_ge (h : OKx g x own cc d) {a b off : Int} {tgt : Nat} (hd : decode cc pc = .ok (.lcmp, 1)) (hd2 : decode cc (pc + 1) = .ok (.ifCond .ge off, 3)) (ht : ((pc + 1 : Nat) : Int) + off = (tgt : Int))
    (kt : b ≤ a → Jd g x tgt ls st T M sz nc ns) (kf : ¬ (b ≤ a) → Jd g x (pc + 4) ls st T M sz nc ns) : Jd g x pc ls (vL b :: vL a :: st) T M sz nc ns :=
  J_lcmp h hd (J_if_ge h hd2 ht (fun q => kt ((jcmp_ge a b).mp q)) (fun q => kf (fun z => q ((jcmp_ge a b).mpr z))))
theorem jcmp_gt (a b : Int) : (0 < jcmp a b) ↔ (b < a) := by unfold jcmp; constructor <;> intro h <;> (repeat' split at *) <;> omega
theorem J_lc_gt (h : OKx g x own cc d) {a b off : Int} {tgt : Nat} (hd : decode cc pc = .ok (.lcmp, 1)) (hd2 : decode cc (pc + 1) = .ok (.ifCond .gt off, 3)) (ht : ((pc + 1 : Nat) : Int) + off = (tgt : Int))
    (kt : b < a → Jd g x tgt ls st T M sz nc ns) (kf : ¬ (b < a) → Jd g x (pc + 4) ls st T M sz nc ns) : Jd g x pc ls (vL b :: vL a :: st) T M sz nc ns :=
  J_lcmp h hd (J_if_gt h hd2 ht (fun q => kt ((jcmp_gt a b).mp q)) (fun q => kf (fun z => q ((jcmp_gt a b).mpr z))))
theorem jcmp_le (a b : Int) : (jcmp a b ≤ 0) ↔ (a ≤ b) := by unfold jcmp; constructor <;> intro h <;> (repeat' split at *) <;> omega
theorem J_lc_le (h : OKx g x own cc d) {a b off : Int} {tgt : Nat} (hd : decode cc pc = .ok (.lcmp, 1)) (hd2 : decode cc (pc + 1) = .ok (.ifCond .le off, 3)) (ht : ((pc + 1 : Nat) : Int) + off = (tgt : Int))
    (kt : a ≤ b → Jd g x tgt ls st T M sz nc ns) (kf : ¬ (a ≤ b) → Jd g x (pc + 4) ls st T M sz nc ns) : Jd g x pc ls (vL b :: vL a :: st) T M sz nc ns :=
  J_lcmp h hd (J_if_le h hd2 ht (fun q => kt ((jcmp_le a b).mp q)) (fun q => kf (fun z => q ((jcmp_le a b).mpr z))))
end
/-- the reference at r -/
def MT (T : TT) (r : Nat) : Prop := (T r).1 = 7 ∧ (T r).2.2 0 = some (r + 1) ∧ (T (r + 1)).1 = 10 ∧ (T (r + 1)).2.1 = 8 ∧ (T r).2.2 1 = some (r + 2) ∧ (T (r + 2)).1 = 10 ∧ (T (r + 2)).2.1 = 8 ∧ (T r).2.2 2 = some (r + 3) ∧ (T (r + 3)).1 = 10 ∧ (T (r + 3)).2.1 = 8 ∧ (T r).2.2 5 = some (r + 14) ∧ (T (r + 14)).1 = 10 ∧ (T (r + 14)).2.1 = 8 ∧ (T r).2.2 6 = some (r + 15) ∧ (T (r + 15)).1 = 10 ∧ (T (r + 15)).2.1 = 250 ∧ (T r).2.2 8 = some (r + 16) ∧ (T (r + 16)).1 = 10 ∧ (T (r + 16)).2.1 = 8 ∧ (T r).2.2 10 = some (r + 17) ∧ (T (r + 17)).1 = 10 ∧ (T (r + 17)).2.1 = 8 ∧ (T r).2.2 11 = some (r + 18) ∧ (T (r + 18)).1 = 10 ∧ (T (r + 18)).2.1 = 8 ∧ (T r).2.2 12 = some (r + 19) ∧ (T (r + 19)).1 = 10 ∧ (T (r + 19)).2.1 = 8 ∧ (T r).2.2 13 = some (r + 20) ∧ (T (r + 20)).1 = 10 ∧ (T (r + 20)).2.1 = 8 ∧ (T r).2.2 14 = some (r + 21) ∧ (T (r + 21)).1 = 10 ∧ (T (r + 21)).2.1 = 8 ∧ (T r).2.2 16 = some (r + 25) ∧ (T (r + 25)).1 = 10 ∧ (T (r + 25)).2.1 = 2 ∧ (T r).2.2 32 = some (r + 26) ∧ (T (r + 26)).1 = 10 ∧ (T (r + 26)).2.1 = 5 ∧ (T r).2.2 34 = some (r + 27) ∧ (T (r + 27)).1 = 10 ∧ (T (r + 27)).2.1 = 8 ∧ (T r).2.2 35 = some (r + 28) ∧ (T (r + 28)).1 = 10 ∧ (T (r + 28)).2.1 = 8 ∧ (T r).2.2 3 = some (r + 4) ∧ (T (r + 4)).1 = 14 ∧ (T (r + 4)).2.1 = 8 ∧ (∀ s, s < 8 → (T (r + 4)).2.2 s = some (r + 5 + s) ∧ (T (r + 5 + s)).1 = 11 ∧ (T (r + 5 + s)).2.1 = 40) ∧ (T r).2.2 4 = some (r + 13) ∧ (T (r + 13)).1 = 11 ∧ (T (r + 13)).2.1 = 40 ∧ (T r).2.2 15 = some (r + 22) ∧ (T (r + 22)).1 = 13 ∧ (T (r + 22)).2.1 = 2 ∧ (∀ c, c < 2 → (T (r + 22)).2.2 c = some (r + 23 + c) ∧ (T (r + 23 + c)).1 = 10 ∧ (T (r + 23 + c)).2.1 = 8)
theorem MT.o {T : TT} {r : Nat} (h : MT T r) : (T r).1 = 7 := h.1
theorem MT.r0 {T : TT} {r : Nat} (h : MT T r) : (T r).2.2 0 = some (r + 1) := h.2.1
theorem MT.k1 {T : TT} {r : Nat} (h : MT T r) : (T (r + 1)).1 = 10 := h.2.2.1
theorem MT.n1 {T : TT} {r : Nat} (h : MT T r) : (T (r + 1)).2.1 = 8 := h.2.2.2.1
theorem MT.r1 {T : TT} {r : Nat} (h : MT T r) : (T r).2.2 1 = some (r + 2) := h.2.2.2.2.1
theorem MT.k2 {T : TT} {r : Nat} (h : MT T r) : (T (r + 2)).1 = 10 := h.2.2.2.2.2.1
theorem MT.n2 {T : TT} {r : Nat} (h : MT T r) : (T (r + 2)).2.1 = 8 := h.2.2.2.2.2.2.1
theorem MT.r2 {T : TT} {r : Nat} (h : MT T r) : (T r).2.2 2 = some (r + 3) := h.2.2.2.2.2.2.2.1
theorem MT.k3 {T : TT} {r : Nat} (h : MT T r) : (T (r + 3)).1 = 10 := h.2.2.2.2.2.2.2.2.1
theorem MT.n3 {T : TT} {r : Nat} (h : MT T r) : (T (r + 3)).2.1 = 8 := h.2.2.2.2.2.2.2.2.2.1
theorem MT.r5 {T : TT} {r : Nat} (h : MT T r) : (T r).2.2 5 = some (r + 14) := h.2.2.2.2.2.2.2.2.2.2.1
theorem MT.k14 {T : TT} {r : Nat} (h : MT T r) : (T (r + 14)).1 = 10 := h.2.2.2.2.2.2.2.2.2.2.2.1
theorem MT.n14 {T : TT} {r : Nat} (h : MT T r) : (T (r + 14)).2.1 = 8 := h.2.2.2.2.2.2.2.2.2.2.2.2.1
theorem MT.r6 {T : TT} {r : Nat} (h : MT T r) : (T r).2.2 6 = some (r + 15) := h.2.2.2.2.2.2.2.2.2.2.2.2.2.1
theorem MT.k15 {T : TT} {r : Nat} (h : MT T r) : (T (r + 15)).1 = 10 := h.2.2.2.2.2.2.2.2.2.2.2.2.2.2.1
theorem MT.n15 {T : TT} {r : Nat} (h : MT T r) : (T (r + 15)).2.1 = 250 := h.2.2.2.2.2.2.2.2.2.2.2.2.2.2.2.1
theorem MT.r8 {T : TT} {r : Nat} (h : MT T r) : (T r).2.2 8 = some (r + 16) := h.2.2.2.2.2.2.2.2.2.2.2.2.2.2.2.2.1
theorem MT.k16 {T : TT} {r : Nat} (h : MT T r) : (T (r + 16)).1 = 10 := h.2.2.2.2.2.2.2.2.2.2.2.2.2.2.2.2.2.1
theorem MT.n16 {T : TT} {r : Nat} (h : MT T r) : (T (r + 16)).2.1 = 8 := h.2.2.2.2.2.2.2.2.2.2.2.2.2.2.2.2.2.2.1
theorem MT.r10 {T : TT} {r : Nat} (h : MT T r) : (T r).2.2 10 = some (r + 17) := h.2.2.2.2.2.2.2.2.2.2.2.2.2.2.2.2.2.2.2.1
theorem MT.k17 {T : TT} {r : Nat} (h : MT T r) : (T (r + 17)).1 = 10 := h.2.2.2.2.2.2.2.2.2.2.2.2.2.2.2.2.2.2.2.2.1
theorem MT.n17 {T : TT} {r : Nat} (h : MT T r) : (T (r + 17)).2.1 = 8 := h.2.2.2.2.2.2.2.2.2.2.2.2.2.2.2.2.2.2.2.2.2.1
theorem MT.r11 {T : TT} {r : Nat} (h : MT T r) : (T r).2.2 11 = some (r + 18) := h.2.2.2.2.2.2.2.2.2.2.2.2.2.2.2.2.2.2.2.2.2.2.1
theorem MT.k18 {T : TT} {r : Nat} (h : MT T r) : (T (r + 18)).1 = 10 := h.2.2.2.2.2.2.2.2.2.2.2.2.2.2.2.2.2.2.2.2.2.2.2.1
theorem MT.n18 {T : TT} {r : Nat} (h : MT T r) : (T (r + 18)).2.1 = 8 := h.2.2.2.2.2.2.2.2.2.2.2.2.2.2.2.2.2.2.2.2.2.2.2.2.1
theorem MT.r12 {T : TT} {r : Nat} (h : MT T r) : (T r).2.2 12 = some (r + 19) := h.2.2.2.2.2.2.2.2.2.2.2.2.2.2.2.2.2.2.2.2.2.2.2.2.2.1
theorem MT.k19 {T : TT} {r : Nat} (h : MT T r) : (T (r + 19)).1 = 10 := h.2.2.2.2.2.2.2.2.2.2.2.2.2.2.2.2.2.2.2.2.2.2.2.2.2.2.1
theorem MT.n19 {T : TT} {r : Nat} (h : MT T r) : (T (r + 19)).2.1 = 8 := h.2.2.2.2.2.2.2.2.2.2.2.2.2.2.2.2.2.2.2.2.2.2.2.2.2.2.2.1
theorem MT.r13 {T : TT} {r : Nat} (h : MT T r) : (T r).2.2 13 = some (r + 20) := h.2.2.2.2.2.2.2.2.2.2.2.2.2.2.2.2.2.2.2.2.2.2.2.2.2.2.2.2.1
theorem MT.k20 {T : TT} {r : Nat} (h : MT T r) : (T (r + 20)).1 = 10 := h.2.2.2.2.2.2.2.2.2.2.2.2.2.2.2.2.2.2.2.2.2.2.2.2.2.2.2.2.2.1
theorem MT.n20 {T : TT} {r : Nat} (h : MT T r) : (T (r + 20)).2.1 = 8 := h.2.2.2.2.2.2.2.2.2.2.2.2.2.2.2.2.2.2.2.2.2.2.2.2.2.2.2.2.2.2.1
theorem MT.r14 {T : TT} {r : Nat} (h : MT T r) : (T r).2.2 14 = some (r + 21) := h.2.2.2.2.2.2.2.2.2.2.2.2.2.2.2.2.2.2.2.2.2.2.2.2.2.2.2.2.2.2.2.1
theorem MT.k21 {T : TT} {r : Nat} (h : MT T r) : (T (r + 21)).1 = 10 := h.2.2.2.2.2.2.2.2.2.2.2.2.2.2.2.2.2.2.2.2.2.2.2.2.2.2.2.2.2.2.2.2.1
theorem MT.n21 {T : TT} {r : Nat} (h : MT T r) : (T (r + 21)).2.1 = 8 := h.2.2.2.2.2.2.2.2.2.2.2.2.2.2.2.2.2.2.2.2.2.2.2.2.2.2.2.2.2.2.2.2.2.1
theorem MT.r16 {T : TT} {r : Nat} (h : MT T r) : (T r).2.2 16 = some (r + 25) := h.2.2.2.2.2.2.2.2.2.2.2.2.2.2.2.2.2.2.2.2.2.2.2.2.2.2.2.2.2.2.2.2.2.2.1
theorem MT.k25 {T : TT} {r : Nat} (h : MT T r) : (T (r + 25)).1 = 10 := h.2.2.2.2.2.2.2.2.2.2.2.2.2.2.2.2.2.2.2.2.2.2.2.2.2.2.2.2.2.2.2.2.2.2.2.1
theorem MT.n25 {T : TT} {r : Nat} (h : MT T r) : (T (r + 25)).2.1 = 2 := h.2.2.2.2.2.2.2.2.2.2.2.2.2.2.2.2.2.2.2.2.2.2.2.2.2.2.2.2.2.2.2.2.2.2.2.2.1
theorem MT.r32 {T : TT} {r : Nat} (h : MT T r) : (T r).2.2 32 = some (r + 26) := h.2.2.2.2.2.2.2.2.2.2.2.2.2.2.2.2.2.2.2.2.2.2.2.2.2.2.2.2.2.2.2.2.2.2.2.2.2.1
theorem MT.k26 {T : TT} {r : Nat} (h : MT T r) : (T (r + 26)).1 = 10 := h.2.2.2.2.2.2.2.2.2.2.2.2.2.2.2.2.2.2.2.2.2.2.2.2.2.2.2.2.2.2.2.2.2.2.2.2.2.2.1
theorem MT.n26 {T : TT} {r : Nat} (h : MT T r) : (T (r + 26)).2.1 = 5 := h.2.2.2.2.2.2.2.2.2.2.2.2.2.2.2.2.2.2.2.2.2.2.2.2.2.2.2.2.2.2.2.2.2.2.2.2.2.2.2.1
theorem MT.r34 {T : TT} {r : Nat} (h : MT T r) : (T r).2.2 34 = some (r + 27) := h.2.2.2.2.2.2.2.2.2.2.2.2.2.2.2.2.2.2.2.2.2.2.2.2.2.2.2.2.2.2.2.2.2.2.2.2.2.2.2.2.1
theorem MT.k27 {T : TT} {r : Nat} (h : MT T r) : (T (r + 27)).1 = 10 := h.2.2.2.2.2.2.2.2.2.2.2.2.2.2.2.2.2.2.2.2.2.2.2.2.2.2.2.2.2.2.2.2.2.2.2.2.2.2.2.2.2.1
theorem MT.n27 {T : TT} {r : Nat} (h : MT T r) : (T (r + 27)).2.1 = 8 := h.2.2.2.2.2.2.2.2.2.2.2.2.2.2.2.2.2.2.2.2.2.2.2.2.2.2.2.2.2.2.2.2.2.2.2.2.2.2.2.2.2.2.1
theorem MT.r35 {T : TT} {r : Nat} (h : MT T r) : (T r).2.2 35 = some (r + 28) := h.2.2.2.2.2.2.2.2.2.2.2.2.2.2.2.2.2.2.2.2.2.2.2.2.2.2.2.2.2.2.2.2.2.2.2.2.2.2.2.2.2.2.2.1
theorem MT.k28 {T : TT} {r : Nat} (h : MT T r) : (T (r + 28)).1 = 10 := h.2.2.2.2.2.2.2.2.2.2.2.2.2.2.2.2.2.2.2.2.2.2.2.2.2.2.2.2.2.2.2.2.2.2.2.2.2.2.2.2.2.2.2.2.1
theorem MT.n28 {T : TT} {r : Nat} (h : MT T r) : (T (r + 28)).2.1 = 8 := h.2.2.2.2.2.2.2.2.2.2.2.2.2.2.2.2.2.2.2.2.2.2.2.2.2.2.2.2.2.2.2.2.2.2.2.2.2.2.2.2.2.2.2.2.2.1
theorem MT.r3 {T : TT} {r : Nat} (h : MT T r) : (T r).2.2 3 = some (r + 4) := h.2.2.2.2.2.2.2.2.2.2.2.2.2.2.2.2.2.2.2.2.2.2.2.2.2.2.2.2.2.2.2.2.2.2.2.2.2.2.2.2.2.2.2.2.2.2.1
theorem MT.k4 {T : TT} {r : Nat} (h : MT T r) : (T (r + 4)).1 = 14 := h.2.2.2.2.2.2.2.2.2.2.2.2.2.2.2.2.2.2.2.2.2.2.2.2.2.2.2.2.2.2.2.2.2.2.2.2.2.2.2.2.2.2.2.2.2.2.2.1
theorem MT.n4 {T : TT} {r : Nat} (h : MT T r) : (T (r + 4)).2.1 = 8 := h.2.2.2.2.2.2.2.2.2.2.2.2.2.2.2.2.2.2.2.2.2.2.2.2.2.2.2.2.2.2.2.2.2.2.2.2.2.2.2.2.2.2.2.2.2.2.2.2.1
theorem MT.rw {T : TT} {r : Nat} (h : MT T r) : (∀ s, s < 8 → (T (r + 4)).2.2 s = some (r + 5 + s) ∧ (T (r + 5 + s)).1 = 11 ∧ (T (r + 5 + s)).2.1 = 40) := h.2.2.2.2.2.2.2.2.2.2.2.2.2.2.2.2.2.2.2.2.2.2.2.2.2.2.2.2.2.2.2.2.2.2.2.2.2.2.2.2.2.2.2.2.2.2.2.2.2.1
theorem MT.r4 {T : TT} {r : Nat} (h : MT T r) : (T r).2.2 4 = some (r + 13) := h.2.2.2.2.2.2.2.2.2.2.2.2.2.2.2.2.2.2.2.2.2.2.2.2.2.2.2.2.2.2.2.2.2.2.2.2.2.2.2.2.2.2.2.2.2.2.2.2.2.2.1
theorem MT.k13 {T : TT} {r : Nat} (h : MT T r) : (T (r + 13)).1 = 11 := h.2.2.2.2.2.2.2.2.2.2.2.2.2.2.2.2.2.2.2.2.2.2.2.2.2.2.2.2.2.2.2.2.2.2.2.2.2.2.2.2.2.2.2.2.2.2.2.2.2.2.2.1
theorem MT.n13 {T : TT} {r : Nat} (h : MT T r) : (T (r + 13)).2.1 = 40 := h.2.2.2.2.2.2.2.2.2.2.2.2.2.2.2.2.2.2.2.2.2.2.2.2.2.2.2.2.2.2.2.2.2.2.2.2.2.2.2.2.2.2.2.2.2.2.2.2.2.2.2.2.1
theorem MT.r15 {T : TT} {r : Nat} (h : MT T r) : (T r).2.2 15 = some (r + 22) := h.2.2.2.2.2.2.2.2.2.2.2.2.2.2.2.2.2.2.2.2.2.2.2.2.2.2.2.2.2.2.2.2.2.2.2.2.2.2.2.2.2.2.2.2.2.2.2.2.2.2.2.2.2.1
theorem MT.k22 {T : TT} {r : Nat} (h : MT T r) : (T (r + 22)).1 = 13 := h.2.2.2.2.2.2.2.2.2.2.2.2.2.2.2.2.2.2.2.2.2.2.2.2.2.2.2.2.2.2.2.2.2.2.2.2.2.2.2.2.2.2.2.2.2.2.2.2.2.2.2.2.2.2.1
theorem MT.n22 {T : TT} {r : Nat} (h : MT T r) : (T (r + 22)).2.1 = 2 := h.2.2.2.2.2.2.2.2.2.2.2.2.2.2.2.2.2.2.2.2.2.2.2.2.2.2.2.2.2.2.2.2.2.2.2.2.2.2.2.2.2.2.2.2.2.2.2.2.2.2.2.2.2.2.2.1
theorem MT.cc {T : TT} {r : Nat} (h : MT T r) : (∀ c, c < 2 → (T (r + 22)).2.2 c = some (r + 23 + c) ∧ (T (r + 23 + c)).1 = 10 ∧ (T (r + 23 + c)).2.1 = 8) := h.2.2.2.2.2.2.2.2.2.2.2.2.2.2.2.2.2.2.2.2.2.2.2.2.2.2.2.2.2.2.2.2.2.2.2.2.2.2.2.2.2.2.2.2.2.2.2.2.2.2.2.2.2.2.2.2
theorem MT.l1 {T : TT} {r : Nat} (h : MT T r) {i : Nat} (hi : i < 8) : i < (T (r + 1)).2.1 := by rw [h.n1]; exact hi
theorem MT.l2 {T : TT} {r : Nat} (h : MT T r) {i : Nat} (hi : i < 8) : i < (T (r + 2)).2.1 := by rw [h.n2]; exact hi
theorem MT.l3 {T : TT} {r : Nat} (h : MT T r) {i : Nat} (hi : i < 8) : i < (T (r + 3)).2.1 := by rw [h.n3]; exact hi
theorem MT.l14 {T : TT} {r : Nat} (h : MT T r) {i : Nat} (hi : i < 8) : i < (T (r + 14)).2.1 := by rw [h.n14]; exact hi
theorem MT.l15 {T : TT} {r : Nat} (h : MT T r) {i : Nat} (hi : i < 250) : i < (T (r + 15)).2.1 := by rw [h.n15]; exact hi
theorem MT.l16 {T : TT} {r : Nat} (h : MT T r) {i : Nat} (hi : i < 8) : i < (T (r + 16)).2.1 := by rw [h.n16]; exact hi
theorem MT.l17 {T : TT} {r : Nat} (h : MT T r) {i : Nat} (hi : i < 8) : i < (T (r + 17)).2.1 := by rw [h.n17]; exact hi
theorem MT.l18 {T : TT} {r : Nat} (h : MT T r) {i : Nat} (hi : i < 8) : i < (T (r + 18)).2.1 := by rw [h.n18]; exact hi
theorem MT.l19 {T : TT} {r : Nat} (h : MT T r) {i : Nat} (hi : i < 8) : i < (T (r + 19)).2.1 := by rw [h.n19]; exact hi
theorem MT.l20 {T : TT} {r : Nat} (h : MT T r) {i : Nat} (hi : i < 8) : i < (T (r + 20)).2.1 := by rw [h.n20]; exact hi
theorem MT.l21 {T : TT} {r : Nat} (h : MT T r) {i : Nat} (hi : i < 8) : i < (T (r + 21)).2.1 := by rw [h.n21]; exact hi
theorem MT.l25 {T : TT} {r : Nat} (h : MT T r) {i : Nat} (hi : i < 2) : i < (T (r + 25)).2.1 := by rw [h.n25]; exact hi
theorem MT.l26 {T : TT} {r : Nat} (h : MT T r) {i : Nat} (hi : i < 5) : i < (T (r + 26)).2.1 := by rw [h.n26]; exact hi
theorem MT.l27 {T : TT} {r : Nat} (h : MT T r) {i : Nat} (hi : i < 8) : i < (T (r + 27)).2.1 := by rw [h.n27]; exact hi
theorem MT.l28 {T : TT} {r : Nat} (h : MT T r) {i : Nat} (hi : i < 8) : i < (T (r + 28)).2.1 := by rw [h.n28]; exact hi
theorem MT.l4 {T : TT} {r : Nat} (h : MT T r) {i : Nat} (hi : i < 8) : i < (T (r + 4)).2.1 := by rw [h.n4]; exact hi
theorem MT.f4 {T : TT} {r : Nat} (h : MT T r) {i : Nat} (hi : i < 8) : (T (r + 4)).2.2 i = some (r + 5 + i) := (h.rw i hi).1
theorem MT.kr {T : TT} {r : Nat} (h : MT T r) {i : Nat} (hi : i < 8) : (T (r + 5 + i)).1 = 11 := (h.rw i hi).2.1
theorem MT.lr {T : TT} {r : Nat} (h : MT T r) {i k : Nat} (hi : i < 8) (hk : k < 40) : k < (T (r + 5 + i)).2.1 := by rw [(h.rw i hi).2.2]; exact hk
theorem MT.l13 {T : TT} {r : Nat} (h : MT T r) {i : Nat} (hi : i < 40) : i < (T (r + 13)).2.1 := by rw [h.n13]; exact hi
theorem MT.l22 {T : TT} {r : Nat} (h : MT T r) {c : Nat} (hc : c < 2) : c < (T (r + 22)).2.1 := by rw [h.n22]; exact hc
theorem MT.f22 {T : TT} {r : Nat} (h : MT T r) {c : Nat} (hc : c < 2) : (T (r + 22)).2.2 c = some (r + 23 + c) := (h.cc c hc).1
theorem MT.kl {T : TT} {r : Nat} (h : MT T r) {c : Nat} (hc : c < 2) : (T (r + 23 + c)).1 = 10 := (h.cc c hc).2.1
theorem MT.nl {T : TT} {r : Nat} (h : MT T r) {c : Nat} (hc : c < 2) : (T (r + 23 + c)).2.1 = 8 := (h.cc c hc).2.2
theorem MT.ll {T : TT} {r : Nat} (h : MT T r) {c k : Nat} (hc : c < 2) (hk : k < 8) : k < (T (r + 23 + c)).2.1 := by rw [(h.cc c hc).2.2]; exact hk
/-- the numbers of its yard -/
def MN (M : MM) (r : Nat) (A : YA) : Prop := (∀ f, f < 5 → ∀ i, i < A.n → M (r + 17 + f) i = A.att f i) ∧ (∀ c, c < 2 → ∀ k, k < (A.ch c).length → M (r + 23 + c) k = (((A.ch c).getD k 0 : Nat) : Int)) ∧ (∀ c, c < 2 → M (r + 25) c = (((A.ch c).length : Nat) : Int)) ∧ M r 9 = ((A.n : Nat) : Int) ∧ ∀ q, 1 ≤ q → q < 8 → M r (16 + q) = A.sc q
theorem MN.ln {M : MM} {r : Nat} {A : YA} (h : MN M r A) {c k : Nat} (hc : c < 2) (hk : k < (A.ch c).length) : M (r + 23 + c) k = (((A.ch c).getD k 0 : Nat) : Int) := h.2.1 c hc k hk
theorem MN.sz {M : MM} {r : Nat} {A : YA} (h : MN M r A) {c : Nat} (hc : c < 2) : M (r + 25) c = (((A.ch c).length : Nat) : Int) := h.2.2.1 c hc
theorem MN.pp {M : MM} {r : Nat} {A : YA} (h : MN M r A) : M r 9 = ((A.n : Nat) : Int) := h.2.2.2.1
theorem MN.kd {M : MM} {r : Nat} {A : YA} (h : MN M r A) {i : Nat} (hi : i < A.n) : M (r + 17) i = A.att 0 i := h.1 0 (by decide) i hi
theorem MN.gr {M : MM} {r : Nat} {A : YA} (h : MN M r A) {i : Nat} (hi : i < A.n) : M (r + 18) i = A.att 1 i := h.1 1 (by decide) i hi
theorem MN.we {M : MM} {r : Nat} {A : YA} (h : MN M r A) {i : Nat} (hi : i < A.n) : M (r + 19) i = A.att 2 i := h.1 2 (by decide) i hi
theorem MN.ti {M : MM} {r : Nat} {A : YA} (h : MN M r A) {i : Nat} (hi : i < A.n) : M (r + 20) i = A.att 3 i := h.1 3 (by decide) i hi
theorem MN.by_ {M : MM} {r : Nat} {A : YA} (h : MN M r A) {i : Nat} (hi : i < A.n) : M (r + 21) i = A.att 4 i := h.1 4 (by decide) i hi
theorem MN.s1 {M : MM} {r : Nat} {A : YA} (h : MN M r A) : M r 17 = A.sc 1 := h.2.2.2.2 1 (by decide) (by decide)
theorem MN.s2 {M : MM} {r : Nat} {A : YA} (h : MN M r A) : M r 18 = A.sc 2 := h.2.2.2.2 2 (by decide) (by decide)
theorem MN.s3 {M : MM} {r : Nat} {A : YA} (h : MN M r A) : M r 19 = A.sc 3 := h.2.2.2.2 3 (by decide) (by decide)
theorem MN.s4 {M : MM} {r : Nat} {A : YA} (h : MN M r A) : M r 20 = A.sc 4 := h.2.2.2.2 4 (by decide) (by decide)
theorem MN.s5 {M : MM} {r : Nat} {A : YA} (h : MN M r A) : M r 21 = A.sc 5 := h.2.2.2.2 5 (by decide) (by decide)
theorem MN.s6 {M : MM} {r : Nat} {A : YA} (h : MN M r A) : M r 22 = A.sc 6 := h.2.2.2.2 6 (by decide) (by decide)
theorem MN.s7 {M : MM} {r : Nat} {A : YA} (h : MN M r A) : M r 23 = A.sc 7 := h.2.2.2.2 7 (by decide) (by decide)
theorem MN.tn {M : MM} {r : Nat} {A : YA} (h : MN M r A) (hW : WFY A) : M r 21 = ((A.tn : Nat) : Int) := by rw [h.s5]; exact hW.tni
/-- nothing changed but the yard of the reference at r -/
def FrN (r : Nat) (M M' : MM) : Prop := ∀ a j, ¬ (r + 17 ≤ a ∧ a ≤ r + 25) → ¬ (a = r ∧ (j = 9 ∨ (17 ≤ j ∧ j ≤ 23))) → M' a j = M a j
theorem FrN.rf {r : Nat} {M : MM} : FrN r M M := fun _ _ _ _ => rfl
theorem FrN.tr {r : Nat} {M M1 M2 : MM} (h1 : FrN r M M1) (h2 : FrN r M1 M2) : FrN r M M2 := fun a j ha hj => (h2 a j ha hj).trans (h1 a j ha hj)
theorem FrN.up {r : Nat} {M M1 : MM} (h : FrN r M M1) {a i : Nat} (ha : (r + 17 ≤ a ∧ a ≤ r + 25) ∨ (a = r ∧ (i = 9 ∨ (17 ≤ i ∧ i ≤ 23)))) (v : Int) : FrN r M (up2 M1 a i v) := fun b j hb hj => by
  rw [up2_ne (by
    by_cases e : b = a ∧ j = i
    · obtain ⟨rfl, rfl⟩ := e
      exact absurd ha (fun q => q.elim hb hj)
    · by_cases e1 : b = a
      · exact Or.inr (fun z => e ⟨e1, z⟩)
      · exact Or.inl e1)]
  exact h b j hb hj
theorem MN.setA {M : MM} {r : Nat} {A : YA} (h : MN M r A) {f i : Nat} (v : Int) (hf : f < 5) : MN (up2 M (r + 17 + f) i v) r (A.setA f i v) := by
  obtain ⟨h1, h3, h4, h5, h6⟩ := h
  refine ⟨fun f' hf' i' hi' => ?_, fun c hc k hk => ?_, fun c hc => ?_, ?_, fun q h7 h8 => ?_⟩
  · show _ = (if f' = f ∧ i' = i then v else A.att f' i')
    by_cases e : f' = f ∧ i' = i
    · rw [if_pos e, e.1, e.2, up2_at]
    · rw [if_neg e, up2_ne (by omega)]
      exact h1 f' hf' i' hi'
  · rw [up2_row (by omega)]; exact h3 c hc k hk
  · rw [up2_row (by omega)]; exact h4 c hc
  · rw [up2_row (by omega)]; exact h5
  · rw [up2_row (by omega)]; exact h6 q h7 h8
theorem MN.setS {M : MM} {r : Nat} {A : YA} (h : MN M r A) {q : Nat} (v : Int) (hq : 1 ≤ q ∧ q < 8) : MN (up2 M r (16 + q) v) r (A.setS q v) := by
  obtain ⟨h1, h3, h4, h5, h6⟩ := h
  refine ⟨fun f' hf' i' hi' => ?_, fun c hc k hk => ?_, fun c hc => ?_, ?_, fun q' h7 h8 => ?_⟩
  · rw [up2_row (by omega)]; exact h1 f' hf' i' hi'
  · rw [up2_row (by omega)]; exact h3 c hc k hk
  · rw [up2_row (by omega)]; exact h4 c hc
  · rw [up2_ne (by omega)]; exact h5
  · show _ = (if q' = q then v else A.sc q')
    by_cases e : q' = q
    · subst e; rw [if_pos rfl, up2_at]
    · rw [if_neg e, up2_ne (by omega)]; exact h6 q' h7 h8
theorem MN.setC {M M' : MM} {r : Nat} {A : YA} (h : MN M r A) {c : Nat} {l : List Nat} (hc : c < 2) (hr : ∀ k, k < l.length → M' (r + 23 + c) k = ((l.getD k 0 : Nat) : Int)) (hz : M' (r + 25) c = ((l.length : Nat) : Int)) (hz2 : M' (r + 25) (1 - c) = M (r + 25) (1 - c)) (ho : ∀ a, a ≠ r + 23 + c → a ≠ r + 25 → M' a = M a) : MN M' r (A.setC c l) := by
  obtain ⟨h1, h3, h4, h5, h7⟩ := h
  have hch : ∀ c', (A.setC c l).ch c' = if c' = c then l else A.ch c' := fun _ => rfl
  refine ⟨fun f' hf' i' hi' => ?_, fun c' hc' k hk => ?_, fun c' hc' => ?_, ?_, fun q' h8 h9 => ?_⟩
  · rw [ho _ (by omega) (by omega)]; exact h1 f' hf' i' hi'
  · rw [hch] at hk ⊢
    by_cases e : c' = c
    · subst e; rw [if_pos rfl] at hk ⊢; exact hr k hk
    · rw [if_neg e] at hk ⊢
      rw [ho _ (by omega) (by omega)]; exact h3 c' hc' k hk
  · rw [hch]
    by_cases e : c' = c
    · subst e; rw [if_pos rfl]; exact hz
    · rw [if_neg e]
      have e2 : c' = 1 - c := by omega
      subst e2
      rw [hz2]; exact h4 _ hc'
  · rw [ho _ (by omega) (by omega)]; exact h5
  · rw [ho _ (by omega) (by omega)]; exact h7 q' h8 h9
theorem MN.same {M M' : MM} {r : Nat} {A : YA} (h : MN M r A) (hF : ∀ a j, ((r + 17 ≤ a ∧ a ≤ r + 25) ∨ (a = r ∧ (j = 9 ∨ (17 ≤ j ∧ j ≤ 23)))) → M' a j = M a j) : MN M' r A := by
  obtain ⟨h1, h3, h4, h5, h6⟩ := h
  refine ⟨fun f9 hf9 i hi => ?_, fun c hc k hk => ?_, fun c hc => ?_, ?_, fun q a b => ?_⟩
  · rw [hF _ _ (by omega)]; exact h1 f9 hf9 i hi
  · rw [hF _ _ (by omega)]; exact h3 c hc k hk
  · rw [hF _ _ (by omega)]; exact h4 c hc
  · rw [hF _ _ (by omega)]; exact h5
  · rw [hF _ _ (by omega)]; exact h6 q a b
