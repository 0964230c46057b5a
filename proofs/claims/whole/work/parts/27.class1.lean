/-! what both sides keep: the yard, the kept yard, the shelves (held, size, elements), the tape, the refusals -/
abbrev ST : Type := YA × Option YA × (Nat → Int × Int × (Nat → Int)) × (Nat × (Nat → Int)) × (Nat → Int)
abbrev ST.K (S : ST) : Option YA := S.2.1
abbrev ST.sh (S : ST) : Nat → Int × Int × (Nat → Int) := S.2.2.1
abbrev ST.tp (S : ST) : Nat × (Nat → Int) := S.2.2.2.1
abbrev ST.rf (S : ST) : Nat → Int := S.2.2.2.2
def rowH (h : Int) : Prop := 0 ≤ h ∧ h ≤ 4
def WFS (S : ST) : Prop := WFY S.1 ∧ (∀ K, S.K = some K → WFY K) ∧ (∀ s, s < 8 → ((S.sh s).1 = -1 ∨ (0 ≤ (S.sh s).1 ∧ (S.sh s).1 ≤ 4) ∨ (10 ≤ (S.sh s).1 ∧ (S.sh s).1 < 10 + S.1.n)) ∧ 0 ≤ (S.sh s).2.1 ∧ (S.sh s).2.1 ≤ 40) ∧ (S.tp.1 ≤ 250 ∧ ∀ j, j < S.tp.1 → 0 ≤ S.tp.2 j ∧ S.tp.2 j ≤ 255) ∧ ∀ j, j < 5 → 0 ≤ S.rf j ∧ S.rf j < 1000000
theorem WFS.y {S : ST} (h : WFS S) : WFY S.1 := h.1
theorem WFS.h {S : ST} (h : WFS S) {s : Nat} (hs : s < 8) : (S.sh s).1 = -1 ∨ (0 ≤ (S.sh s).1 ∧ (S.sh s).1 ≤ 4) ∨ (10 ≤ (S.sh s).1 ∧ (S.sh s).1 < 10 + S.1.n) := (h.2.2.1 s hs).1
theorem WFS.z {S : ST} (h : WFS S) {s : Nat} (hs : s < 8) : 0 ≤ (S.sh s).2.1 ∧ (S.sh s).2.1 ≤ 40 := (h.2.2.1 s hs).2
theorem WFS.t {S : ST} (h : WFS S) : S.tp.1 ≤ 250 := h.2.2.2.1.1
theorem WFS.b {S : ST} (h : WFS S) {j : Nat} (hj : j < S.tp.1) : 0 ≤ S.tp.2 j ∧ S.tp.2 j ≤ 255 := h.2.2.2.1.2 j hj
theorem WFS.r {S : ST} (h : WFS S) {j : Nat} (hj : j < 5) : 0 ≤ S.rf j ∧ S.rf j < 1000000 := h.2.2.2.2 j hj
def rfS (S : ST) (k : Nat) : ST := (S.1, S.K, S.sh, S.tp, fun j => if j = k then S.rf j + 1 else S.rf j)
/-- a refusal: BAD 0, OTHER 1, NOTHING 2, STUCK 3, FULL 4 -/
def rA (S : ST) (k : Nat) : Int × ST := (-((k + 2 : Nat) : Int), rfS S k)
/-- the class's numbers -/
def CN (M : MM) (o : Nat) (S : ST) : Prop := YN M (o + 1) S.1 ∧ ((S.K = none ∧ M o 9 = 0) ∨ (∃ K, S.K = some K ∧ M o 9 = 1 ∧ YN M (o + 12) K)) ∧ (∀ s, s < 8 → M (o + 67 + 2 * s) 1 = (S.sh s).1 ∧ (rowH (S.sh s).1 → M (o + 67 + 2 * s) 2 = (S.sh s).2.1 ∧ ∀ j, j < 40 → M (o + 67 + 2 * s + 1) j = (S.sh s).2.2 j)) ∧ (M (o + 63) 1 = ((S.tp.1 : Nat) : Int) ∧ ∀ j, j < S.tp.1 → M (o + 64) j = S.tp.2 j) ∧ ∀ j, j < 5 → M (o + 66) j = S.rf j
theorem CN.y {M : MM} {o : Nat} {S : ST} (h : CN M o S) : YN M (o + 1) S.1 := h.1
theorem CN.hd {M : MM} {o : Nat} {S : ST} (h : CN M o S) {s : Nat} (hs : s < 8) : M (o + 67 + 2 * s) 1 = (S.sh s).1 := (h.2.2.1 s hs).1
theorem CN.hz {M : MM} {o : Nat} {S : ST} (h : CN M o S) {s : Nat} (hs : s < 8) (hr : rowH (S.sh s).1) : M (o + 67 + 2 * s) 2 = (S.sh s).2.1 := ((h.2.2.1 s hs).2 hr).1
theorem CN.he {M : MM} {o : Nat} {S : ST} (h : CN M o S) {s j : Nat} (hs : s < 8) (hr : rowH (S.sh s).1) (hj : j < 40) : M (o + 67 + 2 * s + 1) j = (S.sh s).2.2 j := ((h.2.2.1 s hs).2 hr).2 j hj
theorem CN.tz {M : MM} {o : Nat} {S : ST} (h : CN M o S) : M (o + 63) 1 = ((S.tp.1 : Nat) : Int) := h.2.2.2.1.1
theorem CN.tb {M : MM} {o : Nat} {S : ST} (h : CN M o S) {j : Nat} (hj : j < S.tp.1) : M (o + 64) j = S.tp.2 j := h.2.2.2.1.2 j hj
theorem CN.rf {M : MM} {o : Nat} {S : ST} (h : CN M o S) {j : Nat} (hj : j < 5) : M (o + 66) j = S.rf j := h.2.2.2.2 j hj
/-- nothing that counts is touched -/
theorem CN.same {M M' : MM} {o : Nat} {S : ST} (h : CN M o S) (hF : ∀ a, (o + 1 ≤ a ∧ a < o + 23) ∨ (o + 64 ≤ a ∧ a < o + 83) → M' a = M a) (h9 : M' o 9 = M o 9) (h1 : M' (o + 63) 1 = M (o + 63) 1) : CN M' o S := by
  obtain ⟨h2, h3, h4, ⟨h5, h6⟩, h7⟩ := h
  refine ⟨h2.same (fun a h8 h10 => hF a (by omega)), ?_, fun s hs => ?_, ⟨by rw [h1]; exact h5, fun j hj => by rw [hF _ (by omega)]; exact h6 j hj⟩, fun j hj => by rw [hF _ (by omega)]; exact h7 j hj⟩
  · rcases h3 with ⟨k1, k2⟩ | ⟨K, k1, k2, k3⟩
    · exact Or.inl ⟨k1, by rw [h9]; exact k2⟩
    · exact Or.inr ⟨K, k1, by rw [h9]; exact k2, k3.same (fun a h8 h10 => hF a (by omega))⟩
  · rw [hF _ (by omega), hF _ (by omega)]; exact h4 s hs
/-- the yard is another -/
def yS (S : ST) (A : YA) : ST := (A, S.K, S.sh, S.tp, S.rf)
theorem CN.yard {M M' : MM} {o : Nat} {S : ST} {A : YA} (h : CN M o S) (hY : YN M' (o + 1) A) (hF : FrY (o + 1) M M') : CN M' o (yS S A) := by
  obtain ⟨h2, h3, h4, ⟨h5, h6⟩, h7⟩ := h
  refine ⟨hY, ?_, fun s hs => ?_, ⟨by rw [hF _ (by omega)]; exact h5, fun j hj => by rw [hF _ (by omega)]; exact h6 j hj⟩, fun j hj => by rw [hF _ (by omega)]; exact h7 j hj⟩
  · rcases h3 with ⟨k1, k2⟩ | ⟨K, k1, k2, k3⟩
    · exact Or.inl ⟨k1, by rw [hF _ (by omega)]; exact k2⟩
    · exact Or.inr ⟨K, k1, by rw [hF _ (by omega)]; exact k2, k3.same (fun a h8 h10 => hF a (by omega))⟩
  · rw [hF _ (by omega), hF _ (by omega)]; exact h4 s hs
theorem CN.refuse {M : MM} {o : Nat} {S : ST} (h : CN M o S) {k : Nat} (hk : k < 5) : CN (up2 M (o + 66) k (M (o + 66) k + 1)) o (rfS S k) := by
  obtain ⟨h2, h3, h4, ⟨h5, h6⟩, h7⟩ := h
  refine ⟨h2.same (fun a h8 h10 => up2_row (by omega)), ?_, fun s hs => ?_, ⟨by rw [up2_row (by omega)]; exact h5, fun j hj => by rw [up2_row (by omega)]; exact h6 j hj⟩, fun j hj => ?_⟩
  · rcases h3 with ⟨k1, k2⟩ | ⟨K, k1, k2, k3⟩
    · exact Or.inl ⟨k1, by rw [up2_row (by omega)]; exact k2⟩
    · exact Or.inr ⟨K, k1, by rw [up2_row (by omega)]; exact k2, k3.same (fun a h8 h10 => up2_row (by omega))⟩
  · rw [up2_row (by omega), up2_row (by omega)]; exact h4 s hs
  · show _ = (if j = k then S.rf j + 1 else S.rf j)
    by_cases e : j = k
    · subst e; rw [if_pos rfl, up2_at, h7 j hj]
    · rw [if_neg e, up2_ne (Or.inr e)]; exact h7 j hj
/-- what a call of the class owes -/
def CQ (o : Nat) (T : TT) (M : MM) (sz : Nat) (Q : MVal → TT → MM → Nat → Prop) (a : Int × ST) : Prop := ∀ T' M', CT T' o → CN M' o a.2 → (∀ b, (b < o ∨ o + 83 ≤ b) → T' b = T b ∧ M' b = M b) → Q (vI a.1) T' M' sz
theorem CQ.same {o : Nat} {T : TT} {M : MM} {sz : Nat} {Q : MVal → TT → MM → Nat → Prop} {a : Int × ST} {v : Int} {S : ST} (h : CQ o T M sz Q a) (e : a = (v, S)) (hC : CT T o) (hN : CN M o S) : Q (vI v) T M sz := by
  subst e; exact h T M hC hN (fun _ _ => ⟨rfl, rfl⟩)
theorem CQ.to {o : Nat} {T : TT} {M M' : MM} {sz : Nat} {Q : MVal → TT → MM → Nat → Prop} {a : Int × ST} {v : Int} {S : ST} (h : CQ o T M sz Q a) (e : a = (v, S)) (hC : CT T o) (hN : CN M' o S) (hF : ∀ b, (b < o ∨ o + 83 ≤ b) → M' b = M b) : Q (vI v) T M' sz := by
  subst e; exact h T M' hC hN (fun b hb => ⟨rfl, hF b hb⟩)

set_option maxHeartbeats 4000000 in
theorem c_X6_isChain {g : WG} {d : Nat} {T : TT} {M : MM} {sz : Nat} {Q : MVal → TT → MM → Nat → Prop} {a : Int} (hQ : ∀ v : Int, ((v = 1 ∧ (a = 0 ∨ a = 1)) ∨ (v = 0 ∧ ¬ (a = 0 ∨ a = 1))) → Q (vI v) T M sz) : Ct g (d + 1) mX6_isChain [vI (a)] T M sz 0 0 Q := by
  refine Ct_of2 (ls := [vI (a)]) okX6_isChain rfl (Nat.le_of_ble_eq_true rfl) rfl ?_
  intro x hx hr hnm
  refine J_iload_n hx dX6_isChain_0 (i := 0) rfl rfl ?_
  refine J_if_eq (tgt := 9) hx dX6_isChain_1 (by decide) (fun c1 => ?_) (fun c1 => ?_)
  · refine J_iconst (v := 1) hx dX6_isChain_9 (by decide) ?_
    refine J_goto (tgt := 14) hx dX6_isChain_10 (by decide) ?_
    refine J_zret hx hr dX6_isChain_14 (by omega) ?_
    exact hQ _ (by omega)
  · refine J_iload_n hx dX6_isChain_4 (i := 0) rfl rfl ?_
    refine J_iconst (v := 1) hx dX6_isChain_5 (by decide) ?_
    refine J_icmp_ne (tgt := 13) hx dX6_isChain_6 (by decide) (fun c2 => ?_) (fun c2 => ?_)
    · refine J_iconst (v := 0) hx dX6_isChain_13 (by decide) ?_
      refine J_zret hx hr dX6_isChain_14 (by omega) ?_
      exact hQ _ (by omega)
    · refine J_iconst (v := 1) hx dX6_isChain_9 (by decide) ?_
      refine J_goto (tgt := 14) hx dX6_isChain_10 (by decide) ?_
      refine J_zret hx hr dX6_isChain_14 (by omega) ?_
      exact hQ _ (by omega)

set_option maxHeartbeats 4000000 in
theorem c_X6_isShelf {g : WG} {d : Nat} {T : TT} {M : MM} {sz : Nat} {Q : MVal → TT → MM → Nat → Prop} {a : Int} (hQ : ∀ v : Int, ((v = 1 ∧ (0 ≤ a ∧ a < 8)) ∨ (v = 0 ∧ ¬ (0 ≤ a ∧ a < 8))) → Q (vI v) T M sz) : Ct g (d + 1) mX6_isShelf [vI (a)] T M sz 0 0 Q := by
  refine Ct_of2 (ls := [vI (a)]) okX6_isShelf rfl (Nat.le_of_ble_eq_true rfl) rfl ?_
  intro x hx hr hnm
  refine J_iload_n hx dX6_isShelf_0 (i := 0) rfl rfl ?_
  refine J_if_lt (tgt := 14) hx dX6_isShelf_1 (by decide) (fun c1 => ?_) (fun c1 => ?_)
  · refine J_iconst (v := 0) hx dX6_isShelf_14 (by decide) ?_
    refine J_zret hx hr dX6_isShelf_15 (by omega) ?_
    exact hQ _ (by omega)
  · refine J_iload_n hx dX6_isShelf_4 (i := 0) rfl rfl ?_
    refine J_bipush (v := 8) hx dX6_isShelf_5 (by decide) ?_
    refine J_icmp_ge (tgt := 14) hx dX6_isShelf_7 (by decide) (fun c2 => ?_) (fun c2 => ?_)
    · refine J_iconst (v := 0) hx dX6_isShelf_14 (by decide) ?_
      refine J_zret hx hr dX6_isShelf_15 (by omega) ?_
      exact hQ _ (by omega)
    · refine J_iconst (v := 1) hx dX6_isShelf_10 (by decide) ?_
      refine J_goto (tgt := 15) hx dX6_isShelf_11 (by decide) ?_
      refine J_zret hx hr dX6_isShelf_15 (by omega) ?_
      exact hQ _ (by omega)

set_option maxHeartbeats 4000000 in
theorem c_X6_isRule {g : WG} {d : Nat} {T : TT} {M : MM} {sz : Nat} {Q : MVal → TT → MM → Nat → Prop} {a : Int} (hQ : ∀ v : Int, ((v = 1 ∧ (a = 0 ∨ a = 1)) ∨ (v = 0 ∧ ¬ (a = 0 ∨ a = 1))) → Q (vI v) T M sz) : Ct g (d + 1) mX6_isRule [vI (a)] T M sz 0 0 Q := by
  refine Ct_of2 (ls := [vI (a)]) okX6_isRule rfl (Nat.le_of_ble_eq_true rfl) rfl ?_
  intro x hx hr hnm
  refine J_iload_n hx dX6_isRule_0 (i := 0) rfl rfl ?_
  refine J_if_eq (tgt := 9) hx dX6_isRule_1 (by decide) (fun c1 => ?_) (fun c1 => ?_)
  · refine J_iconst (v := 1) hx dX6_isRule_9 (by decide) ?_
    refine J_goto (tgt := 14) hx dX6_isRule_10 (by decide) ?_
    refine J_zret hx hr dX6_isRule_14 (by omega) ?_
    exact hQ _ (by omega)
  · refine J_iload_n hx dX6_isRule_4 (i := 0) rfl rfl ?_
    refine J_iconst (v := 1) hx dX6_isRule_5 (by decide) ?_
    refine J_icmp_ne (tgt := 13) hx dX6_isRule_6 (by decide) (fun c2 => ?_) (fun c2 => ?_)
    · refine J_iconst (v := 0) hx dX6_isRule_13 (by decide) ?_
      refine J_zret hx hr dX6_isRule_14 (by omega) ?_
      exact hQ _ (by omega)
    · refine J_iconst (v := 1) hx dX6_isRule_9 (by decide) ?_
      refine J_goto (tgt := 14) hx dX6_isRule_10 (by decide) ?_
      refine J_zret hx hr dX6_isRule_14 (by omega) ?_
      exact hQ _ (by omega)

set_option maxHeartbeats 4000000 in
theorem c_X6_isLevel {g : WG} {d : Nat} {T : TT} {M : MM} {sz : Nat} {Q : MVal → TT → MM → Nat → Prop} {a : Int} (hQ : ∀ v : Int, ((v = 1 ∧ (0 ≤ a ∧ a ≤ 20)) ∨ (v = 0 ∧ ¬ (0 ≤ a ∧ a ≤ 20))) → Q (vI v) T M sz) : Ct g (d + 1) mX6_isLevel [vI (a)] T M sz 0 0 Q := by
  refine Ct_of2 (ls := [vI (a)]) okX6_isLevel rfl (Nat.le_of_ble_eq_true rfl) rfl ?_
  intro x hx hr hnm
  refine J_iload_n hx dX6_isLevel_0 (i := 0) rfl rfl ?_
  refine J_if_lt (tgt := 14) hx dX6_isLevel_1 (by decide) (fun c1 => ?_) (fun c1 => ?_)
  · refine J_iconst (v := 0) hx dX6_isLevel_14 (by decide) ?_
    refine J_zret hx hr dX6_isLevel_15 (by omega) ?_
    exact hQ _ (by omega)
  · refine J_iload_n hx dX6_isLevel_4 (i := 0) rfl rfl ?_
    refine J_bipush (v := 20) hx dX6_isLevel_5 (by decide) ?_
    refine J_icmp_gt (tgt := 14) hx dX6_isLevel_7 (by decide) (fun c2 => ?_) (fun c2 => ?_)
    · refine J_iconst (v := 0) hx dX6_isLevel_14 (by decide) ?_
      refine J_zret hx hr dX6_isLevel_15 (by omega) ?_
      exact hQ _ (by omega)
    · refine J_iconst (v := 1) hx dX6_isLevel_10 (by decide) ?_
      refine J_goto (tgt := 15) hx dX6_isLevel_11 (by decide) ?_
      refine J_zret hx hr dX6_isLevel_15 (by omega) ?_
      exact hQ _ (by omega)

set_option maxHeartbeats 4000000 in
theorem c_X6_mayBeAsked {g : WG} {d : Nat} {T : TT} {M : MM} {sz : Nat} {Q : MVal → TT → MM → Nat → Prop} {what v : Int} (hQ : ∀ b : Int, ((b = 1 ∧ mayQ what v) ∨ (b = 0 ∧ ¬ mayQ what v)) → Q (vI b) T M sz) : Ct g (d + 1) mX6_mayBeAsked [vI (what), vI (v)] T M sz 0 0 Q := by
  refine Ct_of2 (ls := [vI (what), vI (v)]) okX6_mayBeAsked rfl (Nat.le_of_ble_eq_true rfl) rfl ?_
  intro x hx hr hnm
  refine J_iload_n hx dX6_mayBeAsked_0 (i := 0) rfl rfl ?_
  by_cases t1_0 : what = 0
  · refine J_tswIn (tgt := 36) (off := 35) hx dX6_mayBeAsked_1 (by omega) (by omega) (by rw [t1_0]; rfl) (by decide) ?_
    refine J_iload_n hx dX6_mayBeAsked_36 (i := 1) rfl rfl ?_
    refine J_if_lt (tgt := 50) hx dX6_mayBeAsked_37 (by decide) (fun c2 => ?_) (fun c2 => ?_)
    · refine J_iconst (v := 0) hx dX6_mayBeAsked_50 (by decide) ?_
      refine J_zret hx hr dX6_mayBeAsked_51 (by omega) ?_
      exact hQ _ (by unfold mayQ; omega)
    · refine J_iload_n hx dX6_mayBeAsked_40 (i := 1) rfl rfl ?_
      refine J_bipush (v := 30) hx dX6_mayBeAsked_41 (by decide) ?_
      refine J_icmp_gt (tgt := 50) hx dX6_mayBeAsked_43 (by decide) (fun c3 => ?_) (fun c3 => ?_)
      · refine J_iconst (v := 0) hx dX6_mayBeAsked_50 (by decide) ?_
        refine J_zret hx hr dX6_mayBeAsked_51 (by omega) ?_
        exact hQ _ (by unfold mayQ; omega)
      · refine J_iconst (v := 1) hx dX6_mayBeAsked_46 (by decide) ?_
        refine J_goto (tgt := 51) hx dX6_mayBeAsked_47 (by decide) ?_
        refine J_zret hx hr dX6_mayBeAsked_51 (by omega) ?_
        exact hQ _ (by unfold mayQ; omega)
  by_cases t1_1 : what = 1
  · refine J_tswIn (tgt := 52) (off := 51) hx dX6_mayBeAsked_1 (by omega) (by omega) (by rw [t1_1]; rfl) (by decide) ?_
    refine J_iload_n hx dX6_mayBeAsked_52 (i := 1) rfl rfl ?_
    refine J_iconst (v := 1) hx dX6_mayBeAsked_53 (by decide) ?_
    refine J_icmp_lt (tgt := 67) hx dX6_mayBeAsked_54 (by decide) (fun c4 => ?_) (fun c4 => ?_)
    · refine J_iconst (v := 0) hx dX6_mayBeAsked_67 (by decide) ?_
      refine J_zret hx hr dX6_mayBeAsked_68 (by omega) ?_
      exact hQ _ (by unfold mayQ; omega)
    · refine J_iload_n hx dX6_mayBeAsked_57 (i := 1) rfl rfl ?_
      refine J_bipush (v := 10) hx dX6_mayBeAsked_58 (by decide) ?_
      refine J_icmp_gt (tgt := 67) hx dX6_mayBeAsked_60 (by decide) (fun c5 => ?_) (fun c5 => ?_)
      · refine J_iconst (v := 0) hx dX6_mayBeAsked_67 (by decide) ?_
        refine J_zret hx hr dX6_mayBeAsked_68 (by omega) ?_
        exact hQ _ (by unfold mayQ; omega)
      · refine J_iconst (v := 1) hx dX6_mayBeAsked_63 (by decide) ?_
        refine J_goto (tgt := 68) hx dX6_mayBeAsked_64 (by decide) ?_
        refine J_zret hx hr dX6_mayBeAsked_68 (by omega) ?_
        exact hQ _ (by unfold mayQ; omega)
  by_cases t1_2 : what = 2
  · refine J_tswIn (tgt := 86) (off := 85) hx dX6_mayBeAsked_1 (by omega) (by omega) (by rw [t1_2]; rfl) (by decide) ?_
    refine J_iload_n hx dX6_mayBeAsked_86 (i := 1) rfl rfl ?_
    refine J_if_eq (tgt := 95) hx dX6_mayBeAsked_87 (by decide) (fun c6 => ?_) (fun c6 => ?_)
    · refine J_iconst (v := 1) hx dX6_mayBeAsked_95 (by decide) ?_
      refine J_goto (tgt := 100) hx dX6_mayBeAsked_96 (by decide) ?_
      refine J_zret hx hr dX6_mayBeAsked_100 (by omega) ?_
      exact hQ _ (by unfold mayQ; omega)
    · refine J_iload_n hx dX6_mayBeAsked_90 (i := 1) rfl rfl ?_
      refine J_iconst (v := 1) hx dX6_mayBeAsked_91 (by decide) ?_
      refine J_icmp_ne (tgt := 99) hx dX6_mayBeAsked_92 (by decide) (fun c7 => ?_) (fun c7 => ?_)
      · refine J_iconst (v := 0) hx dX6_mayBeAsked_99 (by decide) ?_
        refine J_zret hx hr dX6_mayBeAsked_100 (by omega) ?_
        exact hQ _ (by unfold mayQ; omega)
      · refine J_iconst (v := 1) hx dX6_mayBeAsked_95 (by decide) ?_
        refine J_goto (tgt := 100) hx dX6_mayBeAsked_96 (by decide) ?_
        refine J_zret hx hr dX6_mayBeAsked_100 (by omega) ?_
        exact hQ _ (by unfold mayQ; omega)
  by_cases t1_3 : what = 3
  · refine J_tswIn (tgt := 69) (off := 68) hx dX6_mayBeAsked_1 (by omega) (by omega) (by rw [t1_3]; rfl) (by decide) ?_
    refine J_iload_n hx dX6_mayBeAsked_69 (i := 1) rfl rfl ?_
    refine J_iconst (v := 1) hx dX6_mayBeAsked_70 (by decide) ?_
    refine J_icmp_lt (tgt := 84) hx dX6_mayBeAsked_71 (by decide) (fun c8 => ?_) (fun c8 => ?_)
    · refine J_iconst (v := 0) hx dX6_mayBeAsked_84 (by decide) ?_
      refine J_zret hx hr dX6_mayBeAsked_85 (by omega) ?_
      exact hQ _ (by unfold mayQ; omega)
    · refine J_iload_n hx dX6_mayBeAsked_74 (i := 1) rfl rfl ?_
      refine J_bipush (v := 99) hx dX6_mayBeAsked_75 (by decide) ?_
      refine J_icmp_gt (tgt := 84) hx dX6_mayBeAsked_77 (by decide) (fun c9 => ?_) (fun c9 => ?_)
      · refine J_iconst (v := 0) hx dX6_mayBeAsked_84 (by decide) ?_
        refine J_zret hx hr dX6_mayBeAsked_85 (by omega) ?_
        exact hQ _ (by unfold mayQ; omega)
      · refine J_iconst (v := 1) hx dX6_mayBeAsked_80 (by decide) ?_
        refine J_goto (tgt := 85) hx dX6_mayBeAsked_81 (by decide) ?_
        refine J_zret hx hr dX6_mayBeAsked_85 (by omega) ?_
        exact hQ _ (by unfold mayQ; omega)
  by_cases t1_4 : what = 4
  · refine J_tswIn (tgt := 86) (off := 85) hx dX6_mayBeAsked_1 (by omega) (by omega) (by rw [t1_4]; rfl) (by decide) ?_
    refine J_iload_n hx dX6_mayBeAsked_86 (i := 1) rfl rfl ?_
    refine J_if_eq (tgt := 95) hx dX6_mayBeAsked_87 (by decide) (fun c10 => ?_) (fun c10 => ?_)
    · refine J_iconst (v := 1) hx dX6_mayBeAsked_95 (by decide) ?_
      refine J_goto (tgt := 100) hx dX6_mayBeAsked_96 (by decide) ?_
      refine J_zret hx hr dX6_mayBeAsked_100 (by omega) ?_
      exact hQ _ (by unfold mayQ; omega)
    · refine J_iload_n hx dX6_mayBeAsked_90 (i := 1) rfl rfl ?_
      refine J_iconst (v := 1) hx dX6_mayBeAsked_91 (by decide) ?_
      refine J_icmp_ne (tgt := 99) hx dX6_mayBeAsked_92 (by decide) (fun c11 => ?_) (fun c11 => ?_)
      · refine J_iconst (v := 0) hx dX6_mayBeAsked_99 (by decide) ?_
        refine J_zret hx hr dX6_mayBeAsked_100 (by omega) ?_
        exact hQ _ (by unfold mayQ; omega)
      · refine J_iconst (v := 1) hx dX6_mayBeAsked_95 (by decide) ?_
        refine J_goto (tgt := 100) hx dX6_mayBeAsked_96 (by decide) ?_
        refine J_zret hx hr dX6_mayBeAsked_100 (by omega) ?_
        exact hQ _ (by unfold mayQ; omega)
  refine J_tswOut (tgt := 101) hx dX6_mayBeAsked_1 (by omega) (by decide) ?_
  refine J_iconst (v := 0) hx dX6_mayBeAsked_101 (by decide) ?_
  refine J_zret hx hr dX6_mayBeAsked_102 (by omega) ?_
  exact hQ _ (by unfold mayQ; omega)

set_option maxHeartbeats 4000000 in
theorem c_X6_refuse {g : WG} {d : Nat} {T : TT} {M : MM} {o sz : Nat} {S : ST} {Q : MVal → TT → MM → Nat → Prop} (hC : CT T o) (hN : CN M o S) (hW : WFS S) {k : Nat} (hk : k < 5) (hQ : ∀ M', CN M' o (rfS S k) → (∀ b, (b < o ∨ o + 83 ≤ b) → M' b = M b) → Q (vI (-((k + 2 : Nat) : Int))) T M' sz) : Ct g (d + 1) mX6_refuse [vR (o), vI (-((k + 2 : Nat) : Int))] T M sz 0 0 Q := by
  refine Ct_of2 (ls := [vR (o), vI (-((k + 2 : Nat) : Int)), vU]) okX6_refuse rfl (Nat.le_of_ble_eq_true rfl) rfl ?_
  intro x hx hr hnm
  have hb := hN.rf hk
  have hb2 := hW.r hk
  refine J_bipush (v := -2) hx dX6_refuse_0 (by decide) ?_
  refine J_iload_n hx dX6_refuse_2 (i := 1) rfl rfl ?_
  refine J_isub (v := ((k : Nat) : Int)) hx dX6_refuse_3 (by rw [w32_id (by omega) (by omega)]; omega) ?_
  refine J_istore_n (lsn := [vR (o), vI (-((k + 2 : Nat) : Int)), vI (((k : Nat) : Int))]) hx dX6_refuse_4 (i := 2) rfl (Nat.le_of_ble_eq_true rfl) rfl rfl ?_
  refine J_iload_n hx dX6_refuse_5 (i := 2) rfl rfl ?_
  refine J_if_lt (tgt := 28) hx dX6_refuse_6 (by decide) (fun c1 => ?_) (fun c1 => ?_)
  · refine J_iload_n hx dX6_refuse_28 (i := 1) rfl rfl ?_
    refine J_iret hx hr dX6_refuse_29 ?_
    exfalso; omega
  · refine J_iload_n hx dX6_refuse_9 (i := 2) rfl rfl ?_
    refine J_aload_n hx dX6_refuse_10 (i := 0) rfl rfl ?_
    refine J_getR (b := o + 66) hx fl_X6_58 cl_X6 dX6_refuse_11 hC.o (by decide) rfl hC.r8 ?_
    refine J_alen2 (v := 5) hx dX6_refuse_14 hC.k66 (by rw [hC.n66]; decide) ?_
    refine J_icmp_ge (tgt := 28) hx dX6_refuse_15 (by decide) (fun c2 => ?_) (fun c2 => ?_)
    · refine J_iload_n hx dX6_refuse_28 (i := 1) rfl rfl ?_
      refine J_iret hx hr dX6_refuse_29 ?_
      exfalso; omega
    · refine J_aload_n hx dX6_refuse_18 (i := 0) rfl rfl ?_
      refine J_getR (b := o + 66) hx fl_X6_58 cl_X6 dX6_refuse_19 hC.o (by decide) rfl hC.r8 ?_
      refine J_iload_n hx dX6_refuse_22 (i := 2) rfl rfl ?_
      refine J_dup2 hx dX6_refuse_23 rfl rfl ?_
      refine J_iald2 (v := M (o + 66) k) hx k dX6_refuse_24 hC.k66 (by omega) (by rw [hC.n66]; omega) rfl ?_
      refine J_iconst (v := 1) hx dX6_refuse_25 (by decide) ?_
      refine J_iadd (v := M (o + 66) k + 1) hx dX6_refuse_26 (w32_id (by omega) (by omega)) ?_
      refine J_iast hx k dX6_refuse_27 hC.k66 (by omega) (by rw [hC.n66]; omega) ?_
      refine J_iload_n hx dX6_refuse_28 (i := 1) rfl rfl ?_
      refine J_iret hx hr dX6_refuse_29 ?_
      exact hQ _ (hN.refuse hk) (fun b hb => up2_row (by omega))

def a_weakest (S : ST) (c : Int) : Int × ST := if ¬ (c = 0 ∨ c = 1) then rA S 0 else if (S.1.ch c.toNat).length < 2 then rA S 3 else (((weakY S.1 (S.1.ch c.toNat) : Nat) : Int), S)
def a_strongest (S : ST) (c : Int) : Int × ST := if ¬ (c = 0 ∨ c = 1) then rA S 0 else if (S.1.ch c.toNat).length < 2 then rA S 3 else (((stroY S.1 (S.1.ch c.toNat) : Nat) : Int), S)
def a_hardest (S : ST) (c : Int) : Int × ST := if ¬ (c = 0 ∨ c = 1) then rA S 0 else if (S.1.ch c.toNat).length < 1 then rA S 3 else ((((S.1.ch c.toNat).getD (hardY S.1 (S.1.ch c.toNat)) 0 : Nat) : Int), S)
def a_strength (S : ST) (c j : Int) : Int × ST := if ¬ (c = 0 ∨ c = 1) then rA S 0 else if ¬ (0 ≤ j ∧ j + 1 < (S.1.ch c.toNat).length) then rA S 0 else (strl S.1 (S.1.ch c.toNat) j.toNat, S)
def a_chainOf (S : ST) (c k : Int) : Int × ST := if ¬ (c = 0 ∨ c = 1) then rA S 0 else if k = -1 then (((S.1.ch c.toNat).length : Nat), S) else if ¬ (0 ≤ k ∧ k < (S.1.ch c.toNat).length) then rA S 0 else (((S.1.ch c.toNat).getD k.toNat 0 : Nat), S)
def a_oneOf (S : ST) (p w : Int) : Int × ST := if ¬ (0 ≤ p ∧ p < S.1.n) then rA S 0 else if 0 ≤ w ∧ w ≤ 4 then (S.1.att w.toNat p.toNat, S) else if w = 5 then (((S.1.co p.toNat : Nat) : Int), S) else if w = 6 then (((plcY S.1 p.toNat : Nat) : Int), S) else if w = 7 then (force S.1 p.toNat, S) else rA S 0
def a_odds (S : ST) (p j : Int) : Int × ST := if ¬ (0 ≤ p ∧ p < S.1.n) then rA S 0 else if ¬ (0 ≤ j ∧ j + 1 < (S.1.ch S.1.tn).length) then rA S 0 else if S.1.co p.toNat = S.1.tn then rA S 3 else (oddsY S.1 p.toNat j.toNat, S)
def a_at (S : ST) (p : Int) : Int × ST := if ¬ (0 ≤ p ∧ p < S.1.n) then rA S 0 else if S.1.co p.toNat = S.1.tn ∨ ((S.1.ch 0).length < 2 ∨ (S.1.ch 1).length < 2 ∨ S.1.sc 4 ≤ S.1.sc 6) then rA S 3 else (((atY S.1 p.toNat : Nat) : Int), S)
def a_take (S : ST) (j : Int) : Int × ST := if ¬ (0 ≤ j ∧ j + 1 < (S.1.ch S.1.tn).length) then rA S 0 else (((sidY S.1 j.toNat : Nat) : Int), S)
def a_call (S : ST) : Int × ST := if ((S.1.ch 0).length < 2 ∨ (S.1.ch 1).length < 2 ∨ S.1.sc 4 ≤ S.1.sc 6) then rA S 3 else (whoY S.1 0, S)
def a_won (S : ST) : Int × ST := if ((S.1.ch 0).length < 2 ∨ (S.1.ch 1).length < 2 ∨ S.1.sc 4 ≤ S.1.sc 6) then (leadY S.1, S) else (-1, S)
def a_over (S : ST) : Int × ST := if ((S.1.ch 0).length < 2 ∨ (S.1.ch 1).length < 2 ∨ S.1.sc 4 ≤ S.1.sc 6) then (1, S) else (0, S)
def a_pair (S : ST) : Int × ST := if S.1.n < 2 then rA S 3 else ((prI S.1 S.1.n).1, S)
def a_tiredest (S : ST) : Int × ST := if S.1.n < 1 then rA S 3 else (((tirY S.1 : Nat) : Int), S)
set_option maxHeartbeats 4000000 in
theorem c_X6_weakest {g : WG} {d : Nat} {T : TT} {M : MM} {o sz : Nat} {S : ST} {Q : MVal → TT → MM → Nat → Prop} (hC : CT T o) (hN : CN M o S) (hW : WFS S) {c : Int} (h_c : -2147483648 ≤ c ∧ c ≤ 2147483647) (hQ : CQ o T M sz Q (a_weakest S c)) : Ct g (d + 4) mX6_weakest [vR (o), vI (c)] T M sz 0 0 Q := by
  refine Ct_of2 (ls := [vR (o), vI (c)]) okX6_weakest rfl (Nat.le_of_ble_eq_true rfl) rfl ?_
  intro x hx hr hnm
  have hn8 := hW.y.n8
  have ht2 := hW.y.tn2
  have hl8 := hW.y.len8 ht2
  refine J_iload_n hx dX6_weakest_0 (i := 1) rfl rfl ?_
  refine J_invS (As := [vI (c)]) (st := []) hx lk_X6_132 okX6_isChain dX6_weakest_1 rfl rfl (Nat.le_of_ble_eq_true rfl) (Nat.zero_add _).symm (Nat.zero_add _).symm rfl (c_X6_isChain (a := c) ?_)
  intro v1 hv1
  refine J_if_ne (tgt := 14) hx dX6_weakest_4 (by decide) (fun c2 => ?_) (fun c2 => ?_)
  · obtain ⟨cN, rfl⟩ : ∃ z : Nat, c = ((z : Nat) : Int) := ⟨c.toNat, by omega⟩
    refine J_aload_n hx dX6_weakest_14 (i := 0) rfl rfl ?_
    refine J_getR (b := o + 1) hx fl_X6_10 cl_X6 dX6_weakest_15 hC.o (by decide) rfl hC.r0 ?_
    refine J_getR (b := o + 1 + 10) hx fl_X6_199 cl_X5 dX6_weakest_18 hC.y0.o (by decide) rfl hC.y0.r7 ?_
    refine J_iload_n hx dX6_weakest_21 (i := 1) rfl rfl ?_
    refine J_iald2 (v := (((S.1.ch cN).length : Nat) : Int)) hx cN dX6_weakest_22 hC.y0.k10 (by omega) (hC.y0.l10 (by omega)) (hN.y.sz (by omega)) ?_
    have rg3 := hW.y.len8 (c := cN) (by omega)
    have rg4 := hW.y.lenN (c := cN) (by omega)
    refine J_iconst (v := 2) hx dX6_weakest_23 (by decide) ?_
    refine J_icmp_ge (tgt := 34) hx dX6_weakest_24 (by decide) (fun c5 => ?_) (fun c5 => ?_)
    · refine J_aload_n hx dX6_weakest_34 (i := 0) rfl rfl ?_
      refine J_getR (b := o + 1) hx fl_X6_10 cl_X6 dX6_weakest_35 hC.o (by decide) rfl hC.r0 ?_
      refine J_iload_n hx dX6_weakest_38 (i := 1) rfl rfl ?_
      refine J_invV (As := [vI (((cN : Nat) : Int))]) (st := []) hx lk_X6_211 okX5_weakestJoint dX6_weakest_39 hC.y0.o (by decide) rfl rfl rfl (Nat.le_of_ble_eq_true rfl) (Nat.zero_add _).symm (Nat.zero_add _).symm rfl (c_X5_weakestJoint hC.y0 hN.y hW.y (c := cN) (by omega) (by omega) ?_)
      refine J_iret hx hr dX6_weakest_42 ?_
      exact hQ.same (v := ((weakY S.1 (S.1.ch cN) : Nat) : Int)) (S := S) (by
        unfold a_weakest
        try unfold overY at *
        try simp only [Int.toNat_natCast]
        (repeat' split) <;> first | rfl | (exfalso; omega)) hC hN
    · refine J_aload_n hx dX6_weakest_27 (i := 0) rfl rfl ?_
      refine J_bipush (v := -5) hx dX6_weakest_28 (by decide) ?_
      refine J_invV (As := [vI ((-5))]) (st := []) hx lk_X6_67 okX6_refuse dX6_weakest_30 hC.o (by decide) rfl rfl rfl (Nat.le_of_ble_eq_true rfl) (Nat.zero_add _).symm (Nat.zero_add _).symm rfl (c_X6_refuse hC hN hW (k := 3) (by decide) ?_)
      intro M1 hN1 hf1
      refine J_iret hx hr dX6_weakest_33 ?_
      exact hQ.to (v := -((3 + 2 : Nat) : Int)) (S := rfS S 3) (by
        unfold a_weakest
        try unfold overY at *
        try simp only [Int.toNat_natCast]
        (repeat' split) <;> first | rfl | (exfalso; omega)) hC hN1 hf1
  · refine J_aload_n hx dX6_weakest_7 (i := 0) rfl rfl ?_
    refine J_bipush (v := -2) hx dX6_weakest_8 (by decide) ?_
    refine J_invV (As := [vI ((-2))]) (st := []) hx lk_X6_67 okX6_refuse dX6_weakest_10 hC.o (by decide) rfl rfl rfl (Nat.le_of_ble_eq_true rfl) (Nat.zero_add _).symm (Nat.zero_add _).symm rfl (c_X6_refuse hC hN hW (k := 0) (by decide) ?_)
    intro M1 hN1 hf1
    refine J_iret hx hr dX6_weakest_13 ?_
    exact hQ.to (v := -((0 + 2 : Nat) : Int)) (S := rfS S 0) (by
      unfold a_weakest
      try unfold overY at *
      try simp only [Int.toNat_natCast]
      (repeat' split) <;> first | rfl | (exfalso; omega)) hC hN1 hf1

set_option maxHeartbeats 4000000 in
theorem c_X6_strongest {g : WG} {d : Nat} {T : TT} {M : MM} {o sz : Nat} {S : ST} {Q : MVal → TT → MM → Nat → Prop} (hC : CT T o) (hN : CN M o S) (hW : WFS S) {c : Int} (h_c : -2147483648 ≤ c ∧ c ≤ 2147483647) (hQ : CQ o T M sz Q (a_strongest S c)) : Ct g (d + 4) mX6_strongest [vR (o), vI (c)] T M sz 0 0 Q := by
  refine Ct_of2 (ls := [vR (o), vI (c)]) okX6_strongest rfl (Nat.le_of_ble_eq_true rfl) rfl ?_
  intro x hx hr hnm
  have hn8 := hW.y.n8
  have ht2 := hW.y.tn2
  have hl8 := hW.y.len8 ht2
  refine J_iload_n hx dX6_strongest_0 (i := 1) rfl rfl ?_
  refine J_invS (As := [vI (c)]) (st := []) hx lk_X6_132 okX6_isChain dX6_strongest_1 rfl rfl (Nat.le_of_ble_eq_true rfl) (Nat.zero_add _).symm (Nat.zero_add _).symm rfl (c_X6_isChain (a := c) ?_)
  intro v1 hv1
  refine J_if_ne (tgt := 14) hx dX6_strongest_4 (by decide) (fun c2 => ?_) (fun c2 => ?_)
  · obtain ⟨cN, rfl⟩ : ∃ z : Nat, c = ((z : Nat) : Int) := ⟨c.toNat, by omega⟩
    refine J_aload_n hx dX6_strongest_14 (i := 0) rfl rfl ?_
    refine J_getR (b := o + 1) hx fl_X6_10 cl_X6 dX6_strongest_15 hC.o (by decide) rfl hC.r0 ?_
    refine J_getR (b := o + 1 + 10) hx fl_X6_199 cl_X5 dX6_strongest_18 hC.y0.o (by decide) rfl hC.y0.r7 ?_
    refine J_iload_n hx dX6_strongest_21 (i := 1) rfl rfl ?_
    refine J_iald2 (v := (((S.1.ch cN).length : Nat) : Int)) hx cN dX6_strongest_22 hC.y0.k10 (by omega) (hC.y0.l10 (by omega)) (hN.y.sz (by omega)) ?_
    have rg3 := hW.y.len8 (c := cN) (by omega)
    have rg4 := hW.y.lenN (c := cN) (by omega)
    refine J_iconst (v := 2) hx dX6_strongest_23 (by decide) ?_
    refine J_icmp_ge (tgt := 34) hx dX6_strongest_24 (by decide) (fun c5 => ?_) (fun c5 => ?_)
    · refine J_aload_n hx dX6_strongest_34 (i := 0) rfl rfl ?_
      refine J_getR (b := o + 1) hx fl_X6_10 cl_X6 dX6_strongest_35 hC.o (by decide) rfl hC.r0 ?_
      refine J_iload_n hx dX6_strongest_38 (i := 1) rfl rfl ?_
      refine J_invV (As := [vI (((cN : Nat) : Int))]) (st := []) hx lk_X6_214 okX5_strongestJoint dX6_strongest_39 hC.y0.o (by decide) rfl rfl rfl (Nat.le_of_ble_eq_true rfl) (Nat.zero_add _).symm (Nat.zero_add _).symm rfl (c_X5_strongestJoint hC.y0 hN.y hW.y (c := cN) (by omega) (by omega) ?_)
      refine J_iret hx hr dX6_strongest_42 ?_
      exact hQ.same (v := ((stroY S.1 (S.1.ch cN) : Nat) : Int)) (S := S) (by
        unfold a_strongest
        try unfold overY at *
        try simp only [Int.toNat_natCast]
        (repeat' split) <;> first | rfl | (exfalso; omega)) hC hN
    · refine J_aload_n hx dX6_strongest_27 (i := 0) rfl rfl ?_
      refine J_bipush (v := -5) hx dX6_strongest_28 (by decide) ?_
      refine J_invV (As := [vI ((-5))]) (st := []) hx lk_X6_67 okX6_refuse dX6_strongest_30 hC.o (by decide) rfl rfl rfl (Nat.le_of_ble_eq_true rfl) (Nat.zero_add _).symm (Nat.zero_add _).symm rfl (c_X6_refuse hC hN hW (k := 3) (by decide) ?_)
      intro M1 hN1 hf1
      refine J_iret hx hr dX6_strongest_33 ?_
      exact hQ.to (v := -((3 + 2 : Nat) : Int)) (S := rfS S 3) (by
        unfold a_strongest
        try unfold overY at *
        try simp only [Int.toNat_natCast]
        (repeat' split) <;> first | rfl | (exfalso; omega)) hC hN1 hf1
  · refine J_aload_n hx dX6_strongest_7 (i := 0) rfl rfl ?_
    refine J_bipush (v := -2) hx dX6_strongest_8 (by decide) ?_
    refine J_invV (As := [vI ((-2))]) (st := []) hx lk_X6_67 okX6_refuse dX6_strongest_10 hC.o (by decide) rfl rfl rfl (Nat.le_of_ble_eq_true rfl) (Nat.zero_add _).symm (Nat.zero_add _).symm rfl (c_X6_refuse hC hN hW (k := 0) (by decide) ?_)
    intro M1 hN1 hf1
    refine J_iret hx hr dX6_strongest_13 ?_
    exact hQ.to (v := -((0 + 2 : Nat) : Int)) (S := rfS S 0) (by
      unfold a_strongest
      try unfold overY at *
      try simp only [Int.toNat_natCast]
      (repeat' split) <;> first | rfl | (exfalso; omega)) hC hN1 hf1

set_option maxHeartbeats 4000000 in
theorem c_X6_hardest {g : WG} {d : Nat} {T : TT} {M : MM} {o sz : Nat} {S : ST} {Q : MVal → TT → MM → Nat → Prop} (hC : CT T o) (hN : CN M o S) (hW : WFS S) {c : Int} (h_c : -2147483648 ≤ c ∧ c ≤ 2147483647) (hQ : CQ o T M sz Q (a_hardest S c)) : Ct g (d + 3) mX6_hardest [vR (o), vI (c)] T M sz 0 0 Q := by
  refine Ct_of2 (ls := [vR (o), vI (c)]) okX6_hardest rfl (Nat.le_of_ble_eq_true rfl) rfl ?_
  intro x hx hr hnm
  have hn8 := hW.y.n8
  have ht2 := hW.y.tn2
  have hl8 := hW.y.len8 ht2
  refine J_iload_n hx dX6_hardest_0 (i := 1) rfl rfl ?_
  refine J_invS (As := [vI (c)]) (st := []) hx lk_X6_132 okX6_isChain dX6_hardest_1 rfl rfl (Nat.le_of_ble_eq_true rfl) (Nat.zero_add _).symm (Nat.zero_add _).symm rfl (c_X6_isChain (a := c) ?_)
  intro v1 hv1
  refine J_if_ne (tgt := 14) hx dX6_hardest_4 (by decide) (fun c2 => ?_) (fun c2 => ?_)
  · obtain ⟨cN, rfl⟩ : ∃ z : Nat, c = ((z : Nat) : Int) := ⟨c.toNat, by omega⟩
    refine J_aload_n hx dX6_hardest_14 (i := 0) rfl rfl ?_
    refine J_getR (b := o + 1) hx fl_X6_10 cl_X6 dX6_hardest_15 hC.o (by decide) rfl hC.r0 ?_
    refine J_getR (b := o + 1 + 10) hx fl_X6_199 cl_X5 dX6_hardest_18 hC.y0.o (by decide) rfl hC.y0.r7 ?_
    refine J_iload_n hx dX6_hardest_21 (i := 1) rfl rfl ?_
    refine J_iald2 (v := (((S.1.ch cN).length : Nat) : Int)) hx cN dX6_hardest_22 hC.y0.k10 (by omega) (hC.y0.l10 (by omega)) (hN.y.sz (by omega)) ?_
    have rg3 := hW.y.len8 (c := cN) (by omega)
    have rg4 := hW.y.lenN (c := cN) (by omega)
    refine J_iconst (v := 1) hx dX6_hardest_23 (by decide) ?_
    refine J_icmp_ge (tgt := 34) hx dX6_hardest_24 (by decide) (fun c5 => ?_) (fun c5 => ?_)
    · refine J_aload_n hx dX6_hardest_34 (i := 0) rfl rfl ?_
      refine J_getR (b := o + 1) hx fl_X6_10 cl_X6 dX6_hardest_35 hC.o (by decide) rfl hC.r0 ?_
      refine J_iload_n hx dX6_hardest_38 (i := 1) rfl rfl ?_
      refine J_invV (As := [vI (((cN : Nat) : Int))]) (st := []) hx lk_X6_217 okX5_mostForceful dX6_hardest_39 hC.y0.o (by decide) rfl rfl rfl (Nat.le_of_ble_eq_true rfl) (Nat.zero_add _).symm (Nat.zero_add _).symm rfl (c_X5_mostForceful hC.y0 hN.y hW.y (c := cN) (by omega) (by omega) ?_)
      refine J_iret hx hr dX6_hardest_42 ?_
      exact hQ.same (v := (((S.1.ch cN).getD (hardY S.1 (S.1.ch cN)) 0 : Nat) : Int)) (S := S) (by
        unfold a_hardest
        try unfold overY at *
        try simp only [Int.toNat_natCast]
        (repeat' split) <;> first | rfl | (exfalso; omega)) hC hN
    · refine J_aload_n hx dX6_hardest_27 (i := 0) rfl rfl ?_
      refine J_bipush (v := -5) hx dX6_hardest_28 (by decide) ?_
      refine J_invV (As := [vI ((-5))]) (st := []) hx lk_X6_67 okX6_refuse dX6_hardest_30 hC.o (by decide) rfl rfl rfl (Nat.le_of_ble_eq_true rfl) (Nat.zero_add _).symm (Nat.zero_add _).symm rfl (c_X6_refuse hC hN hW (k := 3) (by decide) ?_)
      intro M1 hN1 hf1
      refine J_iret hx hr dX6_hardest_33 ?_
      exact hQ.to (v := -((3 + 2 : Nat) : Int)) (S := rfS S 3) (by
        unfold a_hardest
        try unfold overY at *
        try simp only [Int.toNat_natCast]
        (repeat' split) <;> first | rfl | (exfalso; omega)) hC hN1 hf1
  · refine J_aload_n hx dX6_hardest_7 (i := 0) rfl rfl ?_
    refine J_bipush (v := -2) hx dX6_hardest_8 (by decide) ?_
    refine J_invV (As := [vI ((-2))]) (st := []) hx lk_X6_67 okX6_refuse dX6_hardest_10 hC.o (by decide) rfl rfl rfl (Nat.le_of_ble_eq_true rfl) (Nat.zero_add _).symm (Nat.zero_add _).symm rfl (c_X6_refuse hC hN hW (k := 0) (by decide) ?_)
    intro M1 hN1 hf1
    refine J_iret hx hr dX6_hardest_13 ?_
    exact hQ.to (v := -((0 + 2 : Nat) : Int)) (S := rfS S 0) (by
      unfold a_hardest
      try unfold overY at *
      try simp only [Int.toNat_natCast]
      (repeat' split) <;> first | rfl | (exfalso; omega)) hC hN1 hf1

