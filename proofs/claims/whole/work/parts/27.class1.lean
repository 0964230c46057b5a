/-! what both sides keep: the yard, the kept yard, the shelves (held, size, elements), the tape, the refusals -/
abbrev ST : Type := YA × Option YA × (Nat → Int × Int × (Nat → Int)) × (Nat × (Nat → Int)) × (Nat → Int)
abbrev ST.K (S : ST) : Option YA := S.2.1
abbrev ST.sh (S : ST) : Nat → Int × Int × (Nat → Int) := S.2.2.1
abbrev ST.tp (S : ST) : Nat × (Nat → Int) := S.2.2.2.1
abbrev ST.rf (S : ST) : Nat → Int := S.2.2.2.2
def rowH (h : Int) : Prop := 0 ≤ h ∧ h ≤ 4
def WFS (S : ST) : Prop := WFY S.1 ∧ (∀ K, S.K = some K → WFY K) ∧ (∀ s, s < 8 → ((S.sh s).1 = -1 ∨ (0 ≤ (S.sh s).1 ∧ (S.sh s).1 ≤ 4) ∨ (10 ≤ (S.sh s).1 ∧ (S.sh s).1 < 10 + S.1.n)) ∧ 0 ≤ (S.sh s).2.1 ∧ (S.sh s).2.1 ≤ 40) ∧ (S.tp.1 ≤ 250 ∧ ∀ j, j < S.tp.1 → 0 ≤ S.tp.2 j ∧ S.tp.2 j ≤ 255) ∧ ∀ j, j < 5 → 0 ≤ S.rf j ∧ S.rf j < 1000000
theorem WFS.y {S : ST} (h : WFS S) : WFY S.1 := h.1
theorem WFS.h {S : ST} (h : WFS S) {s : Nat} (hs : s < 8) : (S.sh s).1 = -1 ∨ (0 ≤ (S.sh s).1 ∧ (S.sh s).1 ≤ 4) ∨ (10 ≤ (S.sh s).1 ∧ (S.sh s).1 < 10 + S.1.n) := (h.2.2.1 s hs).1
theorem WFS.z {S : ST} (h : WFS S) {s : Nat} (hs : s < 8) : 0 ≤ (S.sh s).2.1 ∧ (S.sh s).2.1 ≤ 40 := (h.2.2.1 s hs).2
theorem WFS.t {S : ST} (h : WFS S) : S.tp.1 ≤ 250 := h.2.2.2.1.1
theorem WFS.b {S : ST} (h : WFS S) {j : Nat} (hj : j < S.tp.1) : 0 ≤ S.tp.2 j ∧ S.tp.2 j ≤ 255 := h.2.2.2.1.2 j hj
theorem WFS.r {S : ST} (h : WFS S) {j : Nat} (hj : j < 5) : 0 ≤ S.rf j ∧ S.rf j < 1000000 := h.2.2.2.2 j hj
def rfS (S : ST) (k : Nat) : ST := (S.1, S.K, S.sh, S.tp, fun j => if j = k then S.rf j + 1 else S.rf j)
/-- a refusal: BAD 0, OTHER 1, NOTHING 2, STUCK 3, FULL 4 -/
def rA (S : ST) (k : Nat) : Int × ST := (-((k + 2 : Nat) : Int), rfS S k)
/-- the class's numbers -/
def CN (M : MM) (o : Nat) (S : ST) : Prop := YN M (o + 1) S.1 ∧ ((S.K = none ∧ M o 9 = 0) ∨ (∃ K, S.K = some K ∧ M o 9 = 1 ∧ YN M (o + 12) K)) ∧ (∀ s, s < 8 → M (o + 67 + 2 * s) 1 = (S.sh s).1 ∧ (rowH (S.sh s).1 → M (o + 67 + 2 * s) 2 = (S.sh s).2.1 ∧ ∀ j, j < 40 → M (o + 67 + 2 * s + 1) j = (S.sh s).2.2 j)) ∧ (M (o + 63) 1 = ((S.tp.1 : Nat) : Int) ∧ ∀ j, j < S.tp.1 → M (o + 64) j = S.tp.2 j) ∧ ∀ j, j < 5 → M (o + 66) j = S.rf j
theorem CN.y {M : MM} {o : Nat} {S : ST} (h : CN M o S) : YN M (o + 1) S.1 := h.1
theorem CN.hd {M : MM} {o : Nat} {S : ST} (h : CN M o S) {s : Nat} (hs : s < 8) : M (o + 67 + 2 * s) 1 = (S.sh s).1 := (h.2.2.1 s hs).1
theorem CN.hz {M : MM} {o : Nat} {S : ST} (h : CN M o S) {s : Nat} (hs : s < 8) (hr : rowH (S.sh s).1) : M (o + 67 + 2 * s) 2 = (S.sh s).2.1 := ((h.2.2.1 s hs).2 hr).1
theorem CN.he {M : MM} {o : Nat} {S : ST} (h : CN M o S) {s j : Nat} (hs : s < 8) (hr : rowH (S.sh s).1) (hj : j < 40) : M (o + 67 + 2 * s + 1) j = (S.sh s).2.2 j := ((h.2.2.1 s hs).2 hr).2 j hj
theorem CN.tz {M : MM} {o : Nat} {S : ST} (h : CN M o S) : M (o + 63) 1 = ((S.tp.1 : Nat) : Int) := h.2.2.2.1.1
theorem CN.tb {M : MM} {o : Nat} {S : ST} (h : CN M o S) {j : Nat} (hj : j < S.tp.1) : M (o + 64) j = S.tp.2 j := h.2.2.2.1.2 j hj
theorem CN.rf {M : MM} {o : Nat} {S : ST} (h : CN M o S) {j : Nat} (hj : j < 5) : M (o + 66) j = S.rf j := h.2.2.2.2 j hj
/-- nothing that counts is touched -/
theorem CN.same {M M' : MM} {o : Nat} {S : ST} (h : CN M o S) (hF : ∀ a, (o + 1 ≤ a ∧ a < o + 23) ∨ (o + 64 ≤ a ∧ a < o + 83) → M' a = M a) (h9 : M' o 9 = M o 9) (h1 : M' (o + 63) 1 = M (o + 63) 1) : CN M' o S := by
  obtain ⟨h2, h3, h4, ⟨h5, h6⟩, h7⟩ := h
  refine ⟨h2.same (fun a h8 h10 => hF a (by omega)), ?_, fun s hs => ?_, ⟨by rw [h1]; exact h5, fun j hj => by rw [hF _ (by omega)]; exact h6 j hj⟩, fun j hj => by rw [hF _ (by omega)]; exact h7 j hj⟩
  · rcases h3 with ⟨k1, k2⟩ | ⟨K, k1, k2, k3⟩
    · exact Or.inl ⟨k1, by rw [h9]; exact k2⟩
    · exact Or.inr ⟨K, k1, by rw [h9]; exact k2, k3.same (fun a h8 h10 => hF a (by omega))⟩
  · rw [hF _ (by omega), hF _ (by omega)]; exact h4 s hs
/-- the yard is another -/
def yS (S : ST) (A : YA) : ST := (A, S.K, S.sh, S.tp, S.rf)
theorem CN.yard {M M' : MM} {o : Nat} {S : ST} {A : YA} (h : CN M o S) (hY : YN M' (o + 1) A) (hF : FrY (o + 1) M M') : CN M' o (yS S A) := by
  obtain ⟨h2, h3, h4, ⟨h5, h6⟩, h7⟩ := h
  refine ⟨hY, ?_, fun s hs => ?_, ⟨by rw [hF _ (by omega)]; exact h5, fun j hj => by rw [hF _ (by omega)]; exact h6 j hj⟩, fun j hj => by rw [hF _ (by omega)]; exact h7 j hj⟩
  · rcases h3 with ⟨k1, k2⟩ | ⟨K, k1, k2, k3⟩
    · exact Or.inl ⟨k1, by rw [hF _ (by omega)]; exact k2⟩
    · exact Or.inr ⟨K, k1, by rw [hF _ (by omega)]; exact k2, k3.same (fun a h8 h10 => hF a (by omega))⟩
  · rw [hF _ (by omega), hF _ (by omega)]; exact h4 s hs
theorem CN.refuse {M : MM} {o : Nat} {S : ST} (h : CN M o S) {k : Nat} (hk : k < 5) : CN (up2 M (o + 66) k (M (o + 66) k + 1)) o (rfS S k) := by
  obtain ⟨h2, h3, h4, ⟨h5, h6⟩, h7⟩ := h
  refine ⟨h2.same (fun a h8 h10 => up2_row (by omega)), ?_, fun s hs => ?_, ⟨by rw [up2_row (by omega)]; exact h5, fun j hj => by rw [up2_row (by omega)]; exact h6 j hj⟩, fun j hj => ?_⟩
  · rcases h3 with ⟨k1, k2⟩ | ⟨K, k1, k2, k3⟩
    · exact Or.inl ⟨k1, by rw [up2_row (by omega)]; exact k2⟩
    · exact Or.inr ⟨K, k1, by rw [up2_row (by omega)]; exact k2, k3.same (fun a h8 h10 => up2_row (by omega))⟩
  · rw [up2_row (by omega), up2_row (by omega)]; exact h4 s hs
  · show _ = (if j = k then S.rf j + 1 else S.rf j)
    by_cases e : j = k
    · subst e; rw [if_pos rfl, up2_at, h7 j hj]
    · rw [if_neg e, up2_ne (Or.inr e)]; exact h7 j hj
/-- what a call of the class owes -/
def CQ (o : Nat) (T : TT) (M : MM) (sz : Nat) (Q : MVal → TT → MM → Nat → Prop) (a : Int × ST) : Prop := ∀ T' M', CT T' o → CN M' o a.2 → (∀ b, (b < o ∨ o + 83 ≤ b) → T' b = T b ∧ M' b = M b) → Q (vI a.1) T' M' sz
theorem CQ.same {o : Nat} {T : TT} {M : MM} {sz : Nat} {Q : MVal → TT → MM → Nat → Prop} {a : Int × ST} {v : Int} {S : ST} (h : CQ o T M sz Q a) (e : a = (v, S)) (hC : CT T o) (hN : CN M o S) : Q (vI v) T M sz := by
  subst e; exact h T M hC hN (fun _ _ => ⟨rfl, rfl⟩)
theorem CQ.to {o : Nat} {T : TT} {M M' : MM} {sz : Nat} {Q : MVal → TT → MM → Nat → Prop} {a : Int × ST} {v : Int} {S : ST} (h : CQ o T M sz Q a) (e : a = (v, S)) (hC : CT T o) (hN : CN M' o S) (hF : ∀ b, (b < o ∨ o + 83 ≤ b) → M' b = M b) : Q (vI v) T M' sz := by
  subst e; exact h T M' hC hN (fun b hb => ⟨rfl, hF b hb⟩)

set_option maxHeartbeats 4000000 in
theorem c_X6_isChain {g : WG} {d : Nat} {T : TT} {M : MM} {sz : Nat} {Q : MVal → TT → MM → Nat → Prop} {a : Int} (hQ : ∀ v : Int, ((v = 1 ∧ (a = 0 ∨ a = 1)) ∨ (v = 0 ∧ ¬ (a = 0 ∨ a = 1))) → Q (vI v) T M sz) : Ct g (d + 1) mX6_isChain [vI (a)] T M sz 0 0 Q := by
  refine Ct_of2 (ls := [vI (a)]) okX6_isChain rfl (Nat.le_of_ble_eq_true rfl) rfl ?_
  intro x hx hr hnm
  refine J_iload_n hx dX6_isChain_0 (i := 0) rfl rfl ?_
  refine J_if_eq (tgt := 9) hx dX6_isChain_1 (by decide) (fun c1 => ?_) (fun c1 => ?_)
  · refine J_iconst (v := 1) hx dX6_isChain_9 (by decide) ?_
    refine J_goto (tgt := 14) hx dX6_isChain_10 (by decide) ?_
    refine J_zret hx hr dX6_isChain_14 (by omega) ?_
    exact hQ _ (by omega)
  · refine J_iload_n hx dX6_isChain_4 (i := 0) rfl rfl ?_
    refine J_iconst (v := 1) hx dX6_isChain_5 (by decide) ?_
    refine J_icmp_ne (tgt := 13) hx dX6_isChain_6 (by decide) (fun c2 => ?_) (fun c2 => ?_)
    · refine J_iconst (v := 0) hx dX6_isChain_13 (by decide) ?_
      refine J_zret hx hr dX6_isChain_14 (by omega) ?_
      exact hQ _ (by omega)
    · refine J_iconst (v := 1) hx dX6_isChain_9 (by decide) ?_
      refine J_goto (tgt := 14) hx dX6_isChain_10 (by decide) ?_
      refine J_zret hx hr dX6_isChain_14 (by omega) ?_
      exact hQ _ (by omega)

set_option maxHeartbeats 4000000 in
theorem c_X6_isShelf {g : WG} {d : Nat} {T : TT} {M : MM} {sz : Nat} {Q : MVal → TT → MM → Nat → Prop} {a : Int} (hQ : ∀ v : Int, ((v = 1 ∧ (0 ≤ a ∧ a < 8)) ∨ (v = 0 ∧ ¬ (0 ≤ a ∧ a < 8))) → Q (vI v) T M sz) : Ct g (d + 1) mX6_isShelf [vI (a)] T M sz 0 0 Q := by
  refine Ct_of2 (ls := [vI (a)]) okX6_isShelf rfl (Nat.le_of_ble_eq_true rfl) rfl ?_
  intro x hx hr hnm
  refine J_iload_n hx dX6_isShelf_0 (i := 0) rfl rfl ?_
  refine J_if_lt (tgt := 14) hx dX6_isShelf_1 (by decide) (fun c1 => ?_) (fun c1 => ?_)
  · refine J_iconst (v := 0) hx dX6_isShelf_14 (by decide) ?_
    refine J_zret hx hr dX6_isShelf_15 (by omega) ?_
    exact hQ _ (by omega)
  · refine J_iload_n hx dX6_isShelf_4 (i := 0) rfl rfl ?_
    refine J_bipush (v := 8) hx dX6_isShelf_5 (by decide) ?_
    refine J_icmp_ge (tgt := 14) hx dX6_isShelf_7 (by decide) (fun c2 => ?_) (fun c2 => ?_)
    · refine J_iconst (v := 0) hx dX6_isShelf_14 (by decide) ?_
      refine J_zret hx hr dX6_isShelf_15 (by omega) ?_
      exact hQ _ (by omega)
    · refine J_iconst (v := 1) hx dX6_isShelf_10 (by decide) ?_
      refine J_goto (tgt := 15) hx dX6_isShelf_11 (by decide) ?_
      refine J_zret hx hr dX6_isShelf_15 (by omega) ?_
      exact hQ _ (by omega)

set_option maxHeartbeats 4000000 in
theorem c_X6_isRule {g : WG} {d : Nat} {T : TT} {M : MM} {sz : Nat} {Q : MVal → TT → MM → Nat → Prop} {a : Int} (hQ : ∀ v : Int, ((v = 1 ∧ (a = 0 ∨ a = 1)) ∨ (v = 0 ∧ ¬ (a = 0 ∨ a = 1))) → Q (vI v) T M sz) : Ct g (d + 1) mX6_isRule [vI (a)] T M sz 0 0 Q := by
  refine Ct_of2 (ls := [vI (a)]) okX6_isRule rfl (Nat.le_of_ble_eq_true rfl) rfl ?_
  intro x hx hr hnm
  refine J_iload_n hx dX6_isRule_0 (i := 0) rfl rfl ?_
  refine J_if_eq (tgt := 9) hx dX6_isRule_1 (by decide) (fun c1 => ?_) (fun c1 => ?_)
  · refine J_iconst (v := 1) hx dX6_isRule_9 (by decide) ?_
    refine J_goto (tgt := 14) hx dX6_isRule_10 (by decide) ?_
    refine J_zret hx hr dX6_isRule_14 (by omega) ?_
    exact hQ _ (by omega)
  · refine J_iload_n hx dX6_isRule_4 (i := 0) rfl rfl ?_
    refine J_iconst (v := 1) hx dX6_isRule_5 (by decide) ?_
    refine J_icmp_ne (tgt := 13) hx dX6_isRule_6 (by decide) (fun c2 => ?_) (fun c2 => ?_)
    · refine J_iconst (v := 0) hx dX6_isRule_13 (by decide) ?_
      refine J_zret hx hr dX6_isRule_14 (by omega) ?_
      exact hQ _ (by omega)
    · refine J_iconst (v := 1) hx dX6_isRule_9 (by decide) ?_
      refine J_goto (tgt := 14) hx dX6_isRule_10 (by decide) ?_
      refine J_zret hx hr dX6_isRule_14 (by omega) ?_
      exact hQ _ (by omega)

set_option maxHeartbeats 4000000 in
theorem c_X6_isLevel {g : WG} {d : Nat} {T : TT} {M : MM} {sz : Nat} {Q : MVal → TT → MM → Nat → Prop} {a : Int} (hQ : ∀ v : Int, ((v = 1 ∧ (0 ≤ a ∧ a ≤ 20)) ∨ (v = 0 ∧ ¬ (0 ≤ a ∧ a ≤ 20))) → Q (vI v) T M sz) : Ct g (d + 1) mX6_isLevel [vI (a)] T M sz 0 0 Q := by
  refine Ct_of2 (ls := [vI (a)]) okX6_isLevel rfl (Nat.le_of_ble_eq_true rfl) rfl ?_
  intro x hx hr hnm
  refine J_iload_n hx dX6_isLevel_0 (i := 0) rfl rfl ?_
  refine J_if_lt (tgt := 14) hx dX6_isLevel_1 (by decide) (fun c1 => ?_) (fun c1 => ?_)
  · refine J_iconst (v := 0) hx dX6_isLevel_14 (by decide) ?_
    refine J_zret hx hr dX6_isLevel_15 (by omega) ?_
    exact hQ _ (by omega)
  · refine J_iload_n hx dX6_isLevel_4 (i := 0) rfl rfl ?_
    refine J_bipush (v := 20) hx dX6_isLevel_5 (by decide) ?_
    refine J_icmp_gt (tgt := 14) hx dX6_isLevel_7 (by decide) (fun c2 => ?_) (fun c2 => ?_)
    · refine J_iconst (v := 0) hx dX6_isLevel_14 (by decide) ?_
      refine J_zret hx hr dX6_isLevel_15 (by omega) ?_
      exact hQ _ (by omega)
    · refine J_iconst (v := 1) hx dX6_isLevel_10 (by decide) ?_
      refine J_goto (tgt := 15) hx dX6_isLevel_11 (by decide) ?_
      refine J_zret hx hr dX6_isLevel_15 (by omega) ?_
      exact hQ _ (by omega)

set_option maxHeartbeats 4000000 in
theorem c_X6_mayBeAsked {g : WG} {d : Nat} {T : TT} {M : MM} {sz : Nat} {Q : MVal → TT → MM → Nat → Prop} {what v : Int} (hQ : ∀ b : Int, ((b = 1 ∧ mayQ what v) ∨ (b = 0 ∧ ¬ mayQ what v)) → Q (vI b) T M sz) : Ct g (d + 1) mX6_mayBeAsked [vI (what), vI (v)] T M sz 0 0 Q := by
  refine Ct_of2 (ls := [vI (what), vI (v)]) okX6_mayBeAsked rfl (Nat.le_of_ble_eq_true rfl) rfl ?_
  intro x hx hr hnm
  refine J_iload_n hx dX6_mayBeAsked_0 (i := 0) rfl rfl ?_
  by_cases t1_0 : what = 0
  · refine J_tswIn (tgt := 36) (off := 35) hx dX6_mayBeAsked_1 (by omega) (by omega) (by rw [t1_0]; rfl) (by decide) ?_
    refine J_iload_n hx dX6_mayBeAsked_36 (i := 1) rfl rfl ?_
    refine J_if_lt (tgt := 50) hx dX6_mayBeAsked_37 (by decide) (fun c2 => ?_) (fun c2 => ?_)
    · refine J_iconst (v := 0) hx dX6_mayBeAsked_50 (by decide) ?_
      refine J_zret hx hr dX6_mayBeAsked_51 (by omega) ?_
      exact hQ _ (by unfold mayQ; omega)
    · refine J_iload_n hx dX6_mayBeAsked_40 (i := 1) rfl rfl ?_
      refine J_bipush (v := 30) hx dX6_mayBeAsked_41 (by decide) ?_
      refine J_icmp_gt (tgt := 50) hx dX6_mayBeAsked_43 (by decide) (fun c3 => ?_) (fun c3 => ?_)
      · refine J_iconst (v := 0) hx dX6_mayBeAsked_50 (by decide) ?_
        refine J_zret hx hr dX6_mayBeAsked_51 (by omega) ?_
        exact hQ _ (by unfold mayQ; omega)
      · refine J_iconst (v := 1) hx dX6_mayBeAsked_46 (by decide) ?_
        refine J_goto (tgt := 51) hx dX6_mayBeAsked_47 (by decide) ?_
        refine J_zret hx hr dX6_mayBeAsked_51 (by omega) ?_
        exact hQ _ (by unfold mayQ; omega)
  by_cases t1_1 : what = 1
  · refine J_tswIn (tgt := 52) (off := 51) hx dX6_mayBeAsked_1 (by omega) (by omega) (by rw [t1_1]; rfl) (by decide) ?_
    refine J_iload_n hx dX6_mayBeAsked_52 (i := 1) rfl rfl ?_
    refine J_iconst (v := 1) hx dX6_mayBeAsked_53 (by decide) ?_
    refine J_icmp_lt (tgt := 67) hx dX6_mayBeAsked_54 (by decide) (fun c4 => ?_) (fun c4 => ?_)
    · refine J_iconst (v := 0) hx dX6_mayBeAsked_67 (by decide) ?_
      refine J_zret hx hr dX6_mayBeAsked_68 (by omega) ?_
      exact hQ _ (by unfold mayQ; omega)
    · refine J_iload_n hx dX6_mayBeAsked_57 (i := 1) rfl rfl ?_
      refine J_bipush (v := 10) hx dX6_mayBeAsked_58 (by decide) ?_
      refine J_icmp_gt (tgt := 67) hx dX6_mayBeAsked_60 (by decide) (fun c5 => ?_) (fun c5 => ?_)
      · refine J_iconst (v := 0) hx dX6_mayBeAsked_67 (by decide) ?_
        refine J_zret hx hr dX6_mayBeAsked_68 (by omega) ?_
        exact hQ _ (by unfold mayQ; omega)
      · refine J_iconst (v := 1) hx dX6_mayBeAsked_63 (by decide) ?_
        refine J_goto (tgt := 68) hx dX6_mayBeAsked_64 (by decide) ?_
        refine J_zret hx hr dX6_mayBeAsked_68 (by omega) ?_
        exact hQ _ (by unfold mayQ; omega)
  by_cases t1_2 : what = 2
  · refine J_tswIn (tgt := 86) (off := 85) hx dX6_mayBeAsked_1 (by omega) (by omega) (by rw [t1_2]; rfl) (by decide) ?_
    refine J_iload_n hx dX6_mayBeAsked_86 (i := 1) rfl rfl ?_
    refine J_if_eq (tgt := 95) hx dX6_mayBeAsked_87 (by decide) (fun c6 => ?_) (fun c6 => ?_)
    · refine J_iconst (v := 1) hx dX6_mayBeAsked_95 (by decide) ?_
      refine J_goto (tgt := 100) hx dX6_mayBeAsked_96 (by decide) ?_
      refine J_zret hx hr dX6_mayBeAsked_100 (by omega) ?_
      exact hQ _ (by unfold mayQ; omega)
    · refine J_iload_n hx dX6_mayBeAsked_90 (i := 1) rfl rfl ?_
      refine J_iconst (v := 1) hx dX6_mayBeAsked_91 (by decide) ?_
      refine J_icmp_ne (tgt := 99) hx dX6_mayBeAsked_92 (by decide) (fun c7 => ?_) (fun c7 => ?_)
      · refine J_iconst (v := 0) hx dX6_mayBeAsked_99 (by decide) ?_
        refine J_zret hx hr dX6_mayBeAsked_100 (by omega) ?_
        exact hQ _ (by unfold mayQ; omega)
      · refine J_iconst (v := 1) hx dX6_mayBeAsked_95 (by decide) ?_
        refine J_goto (tgt := 100) hx dX6_mayBeAsked_96 (by decide) ?_
        refine J_zret hx hr dX6_mayBeAsked_100 (by omega) ?_
        exact hQ _ (by unfold mayQ; omega)
  by_cases t1_3 : what = 3
  · refine J_tswIn (tgt := 69) (off := 68) hx dX6_mayBeAsked_1 (by omega) (by omega) (by rw [t1_3]; rfl) (by decide) ?_
    refine J_iload_n hx dX6_mayBeAsked_69 (i := 1) rfl rfl ?_
    refine J_iconst (v := 1) hx dX6_mayBeAsked_70 (by decide) ?_
    refine J_icmp_lt (tgt := 84) hx dX6_mayBeAsked_71 (by decide) (fun c8 => ?_) (fun c8 => ?_)
    · refine J_iconst (v := 0) hx dX6_mayBeAsked_84 (by decide) ?_
      refine J_zret hx hr dX6_mayBeAsked_85 (by omega) ?_
      exact hQ _ (by unfold mayQ; omega)
    · refine J_iload_n hx dX6_mayBeAsked_74 (i := 1) rfl rfl ?_
      refine J_bipush (v := 99) hx dX6_mayBeAsked_75 (by decide) ?_
      refine J_icmp_gt (tgt := 84) hx dX6_mayBeAsked_77 (by decide) (fun c9 => ?_) (fun c9 => ?_)
      · refine J_iconst (v := 0) hx dX6_mayBeAsked_84 (by decide) ?_
        refine J_zret hx hr dX6_mayBeAsked_85 (by omega) ?_
        exact hQ _ (by unfold mayQ; omega)
      · refine J_iconst (v := 1) hx dX6_mayBeAsked_80 (by decide) ?_
        refine J_goto (tgt := 85) hx dX6_mayBeAsked_81 (by decide) ?_
        refine J_zret hx hr dX6_mayBeAsked_85 (by omega) ?_
        exact hQ _ (by unfold mayQ; omega)
  by_cases t1_4 : what = 4
  · refine J_tswIn (tgt := 86) (off := 85) hx dX6_mayBeAsked_1 (by omega) (by omega) (by rw [t1_4]; rfl) (by decide) ?_
    refine J_iload_n hx dX6_mayBeAsked_86 (i := 1) rfl rfl ?_
    refine J_if_eq (tgt := 95) hx dX6_mayBeAsked_87 (by decide) (fun c10 => ?_) (fun c10 => ?_)
    · refine J_iconst (v := 1) hx dX6_mayBeAsked_95 (by decide) ?_
      refine J_goto (tgt := 100) hx dX6_mayBeAsked_96 (by decide) ?_
      refine J_zret hx hr dX6_mayBeAsked_100 (by omega) ?_
      exact hQ _ (by unfold mayQ; omega)
    · refine J_iload_n hx dX6_mayBeAsked_90 (i := 1) rfl rfl ?_
      refine J_iconst (v := 1) hx dX6_mayBeAsked_91 (by decide) ?_
      refine J_icmp_ne (tgt := 99) hx dX6_mayBeAsked_92 (by decide) (fun c11 => ?_) (fun c11 => ?_)
      · refine J_iconst (v := 0) hx dX6_mayBeAsked_99 (by decide) ?_
        refine J_zret hx hr dX6_mayBeAsked_100 (by omega) ?_
        exact hQ _ (by unfold mayQ; omega)
      · refine J_iconst (v := 1) hx dX6_mayBeAsked_95 (by decide) ?_
        refine J_goto (tgt := 100) hx dX6_mayBeAsked_96 (by decide) ?_
        refine J_zret hx hr dX6_mayBeAsked_100 (by omega) ?_
        exact hQ _ (by unfold mayQ; omega)
  refine J_tswOut (tgt := 101) hx dX6_mayBeAsked_1 (by omega) (by decide) ?_
  refine J_iconst (v := 0) hx dX6_mayBeAsked_101 (by decide) ?_
  refine J_zret hx hr dX6_mayBeAsked_102 (by omega) ?_
  exact hQ _ (by unfold mayQ; omega)

set_option maxHeartbeats 4000000 in
theorem c_X6_refuse {g : WG} {d : Nat} {T : TT} {M : MM} {o sz : Nat} {S : ST} {Q : MVal → TT → MM → Nat → Prop} (hC : CT T o) (hN : CN M o S) (hW : WFS S) {k : Nat} (hk : k < 5) (hQ : ∀ M', CN M' o (rfS S k) → (∀ b, (b < o ∨ o + 83 ≤ b) → M' b = M b) → Q (vI (-((k + 2 : Nat) : Int))) T M' sz) : Ct g (d + 1) mX6_refuse [vR (o), vI (-((k + 2 : Nat) : Int))] T M sz 0 0 Q := by
  refine Ct_of2 (ls := [vR (o), vI (-((k + 2 : Nat) : Int)), vU]) okX6_refuse rfl (Nat.le_of_ble_eq_true rfl) rfl ?_
  intro x hx hr hnm
  have hb := hN.rf hk
  have hb2 := hW.r hk
  refine J_bipush (v := -2) hx dX6_refuse_0 (by decide) ?_
  refine J_iload_n hx dX6_refuse_2 (i := 1) rfl rfl ?_
  refine J_isub (v := ((k : Nat) : Int)) hx dX6_refuse_3 (by rw [w32_id (by omega) (by omega)]; omega) ?_
  refine J_istore_n (lsn := [vR (o), vI (-((k + 2 : Nat) : Int)), vI (((k : Nat) : Int))]) hx dX6_refuse_4 (i := 2) rfl (Nat.le_of_ble_eq_true rfl) rfl rfl ?_
  refine J_iload_n hx dX6_refuse_5 (i := 2) rfl rfl ?_
  refine J_if_lt (tgt := 28) hx dX6_refuse_6 (by decide) (fun c1 => ?_) (fun c1 => ?_)
  · refine J_iload_n hx dX6_refuse_28 (i := 1) rfl rfl ?_
    refine J_iret hx hr dX6_refuse_29 ?_
    exfalso; omega
  · refine J_iload_n hx dX6_refuse_9 (i := 2) rfl rfl ?_
    refine J_aload_n hx dX6_refuse_10 (i := 0) rfl rfl ?_
    refine J_getR (b := o + 66) hx fl_X6_58 cl_X6 dX6_refuse_11 hC.o (by decide) rfl hC.r8 ?_
    refine J_alen2 (v := 5) hx dX6_refuse_14 hC.k66 (by rw [hC.n66]; decide) ?_
    refine J_icmp_ge (tgt := 28) hx dX6_refuse_15 (by decide) (fun c2 => ?_) (fun c2 => ?_)
    · refine J_iload_n hx dX6_refuse_28 (i := 1) rfl rfl ?_
      refine J_iret hx hr dX6_refuse_29 ?_
      exfalso; omega
    · refine J_aload_n hx dX6_refuse_18 (i := 0) rfl rfl ?_
      refine J_getR (b := o + 66) hx fl_X6_58 cl_X6 dX6_refuse_19 hC.o (by decide) rfl hC.r8 ?_
      refine J_iload_n hx dX6_refuse_22 (i := 2) rfl rfl ?_
      refine J_dup2 hx dX6_refuse_23 rfl rfl ?_
      refine J_iald2 (v := M (o + 66) k) hx k dX6_refuse_24 hC.k66 (by omega) (by rw [hC.n66]; omega) rfl ?_
      refine J_iconst (v := 1) hx dX6_refuse_25 (by decide) ?_
      refine J_iadd (v := M (o + 66) k + 1) hx dX6_refuse_26 (w32_id (by omega) (by omega)) ?_
      refine J_iast hx k dX6_refuse_27 hC.k66 (by omega) (by rw [hC.n66]; omega) ?_
      refine J_iload_n hx dX6_refuse_28 (i := 1) rfl rfl ?_
      refine J_iret hx hr dX6_refuse_29 ?_
      exact hQ _ (hN.refuse hk) (fun b hb => up2_row (by omega))

def a_weakest (S : ST) (c : Int) : Int × ST := if ¬ (c = 0 ∨ c = 1) then rA S 0 else if (S.1.ch c.toNat).length < 2 then rA S 3 else (((weakY S.1 (S.1.ch c.toNat) : Nat) : Int), S)
def a_strongest (S : ST) (c : Int) : Int × ST := if ¬ (c = 0 ∨ c = 1) then rA S 0 else if (S.1.ch c.toNat).length < 2 then rA S 3 else (((stroY S.1 (S.1.ch c.toNat) : Nat) : Int), S)
def a_hardest (S : ST) (c : Int) : Int × ST := if ¬ (c = 0 ∨ c = 1) then rA S 0 else if (S.1.ch c.toNat).length < 1 then rA S 3 else ((((S.1.ch c.toNat).getD (hardY S.1 (S.1.ch c.toNat)) 0 : Nat) : Int), S)
def a_strength (S : ST) (c j : Int) : Int × ST := if ¬ (c = 0 ∨ c = 1) then rA S 0 else if ¬ (0 ≤ j ∧ j + 1 < (S.1.ch c.toNat).length) then rA S 0 else (strl S.1 (S.1.ch c.toNat) j.toNat, S)
def a_chainOf (S : ST) (c k : Int) : Int × ST := if ¬ (c = 0 ∨ c = 1) then rA S 0 else if k = -1 then (((S.1.ch c.toNat).length : Nat), S) else if ¬ (0 ≤ k ∧ k < (S.1.ch c.toNat).length) then rA S 0 else (((S.1.ch c.toNat).getD k.toNat 0 : Nat), S)
def a_oneOf (S : ST) (p w : Int) : Int × ST := if ¬ (0 ≤ p ∧ p < S.1.n) then rA S 0 else if 0 ≤ w ∧ w ≤ 4 then (S.1.att w.toNat p.toNat, S) else if w = 5 then (((S.1.co p.toNat : Nat) : Int), S) else if w = 6 then (((plcY S.1 p.toNat : Nat) : Int), S) else if w = 7 then (force S.1 p.toNat, S) else rA S 0
def a_odds (S : ST) (p j : Int) : Int × ST := if ¬ (0 ≤ p ∧ p < S.1.n) then rA S 0 else if ¬ (0 ≤ j ∧ j + 1 < (S.1.ch S.1.tn).length) then rA S 0 else if S.1.co p.toNat = S.1.tn then rA S 3 else (oddsY S.1 p.toNat j.toNat, S)
def a_at (S : ST) (p : Int) : Int × ST := if ¬ (0 ≤ p ∧ p < S.1.n) then rA S 0 else if S.1.co p.toNat = S.1.tn ∨ ((S.1.ch 0).length < 2 ∨ (S.1.ch 1).length < 2 ∨ S.1.sc 4 ≤ S.1.sc 6) then rA S 3 else (((atY S.1 p.toNat : Nat) : Int), S)
def a_take (S : ST) (j : Int) : Int × ST := if ¬ (0 ≤ j ∧ j + 1 < (S.1.ch S.1.tn).length) then rA S 0 else (((sidY S.1 j.toNat : Nat) : Int), S)
def a_call (S : ST) : Int × ST := if ((S.1.ch 0).length < 2 ∨ (S.1.ch 1).length < 2 ∨ S.1.sc 4 ≤ S.1.sc 6) then rA S 3 else (whoY S.1 0, S)
def a_won (S : ST) : Int × ST := if ((S.1.ch 0).length < 2 ∨ (S.1.ch 1).length < 2 ∨ S.1.sc 4 ≤ S.1.sc 6) then (leadY S.1, S) else (-1, S)
def a_over (S : ST) : Int × ST := if ((S.1.ch 0).length < 2 ∨ (S.1.ch 1).length < 2 ∨ S.1.sc 4 ≤ S.1.sc 6) then (1, S) else (0, S)
def a_pair (S : ST) : Int × ST := if S.1.n < 2 then rA S 3 else ((prI S.1 S.1.n).1, S)
def a_tiredest (S : ST) : Int × ST := if S.1.n < 1 then rA S 3 else (((tirY S.1 : Nat) : Int), S)
def a_spreadFor (S : ST) (p j : Int) : Int × ST := if ¬ (0 ≤ p ∧ p < S.1.n) then rA S 0 else if ¬ (0 ≤ j ∧ j + 1 < (S.1.ch S.1.tn).length) then rA S 0 else if S.1.co p.toNat = S.1.tn then rA S 3 else if 10 < (strl S.1 (S.1.ch S.1.tn) j.toNat) - force S.1 p.toNat + 2 then (-1, S) else if 1 < (strl S.1 (S.1.ch S.1.tn) j.toNat) - force S.1 p.toNat + 2 then ((strl S.1 (S.1.ch S.1.tn) j.toNat) - force S.1 p.toNat + 2, S) else (1, S)
def a_yardsFor (S : ST) (p j : Int) : Int × ST := if ¬ (0 ≤ p ∧ p < S.1.n) then rA S 0 else if ¬ (0 ≤ j ∧ j + 1 < (S.1.ch S.1.tn).length) then rA S 0 else if S.1.co p.toNat = S.1.tn then rA S 3 else if 10 < ((strl S.1 (S.1.ch S.1.tn) j.toNat) + 1 - (force S.1 p.toNat - S.1.sc 1 / 3)) then (-1, S) else if 0 < ((strl S.1 (S.1.ch S.1.tn) j.toNat) + 1 - (force S.1 p.toNat - S.1.sc 1 / 3)) then (3 * ((strl S.1 (S.1.ch S.1.tn) j.toNat) + 1 - (force S.1 p.toNat - S.1.sc 1 / 3)), S) else (0, S)
set_option maxHeartbeats 4000000 in
theorem c_X6_weakest {g : WG} {d : Nat} {T : TT} {M : MM} {o sz : Nat} {S : ST} {Q : MVal → TT → MM → Nat → Prop} (hC : CT T o) (hN : CN M o S) (hW : WFS S) {c : Int} (h_c : -2147483648 ≤ c ∧ c ≤ 2147483647) (hQ : CQ o T M sz Q (a_weakest S c)) : Ct g (d + 4) mX6_weakest [vR (o), vI (c)] T M sz 0 0 Q := by
  refine Ct_of2 (ls := [vR (o), vI (c)]) okX6_weakest rfl (Nat.le_of_ble_eq_true rfl) rfl ?_
  intro x hx hr hnm
  have hn8 := hW.y.n8
  have ht2 := hW.y.tn2
  have hl8 := hW.y.len8 ht2
  refine J_iload_n hx dX6_weakest_0 (i := 1) rfl rfl ?_
  refine J_invS (As := [vI (c)]) (st := []) hx lk_X6_132 okX6_isChain dX6_weakest_1 rfl rfl (Nat.le_of_ble_eq_true rfl) (Nat.zero_add _).symm (Nat.zero_add _).symm rfl (c_X6_isChain (a := c) ?_)
  intro v1 hv1
  refine J_if_ne (tgt := 14) hx dX6_weakest_4 (by decide) (fun c2 => ?_) (fun c2 => ?_)
  · obtain ⟨cN, rfl⟩ : ∃ z : Nat, c = ((z : Nat) : Int) := ⟨c.toNat, by omega⟩
    refine J_aload_n hx dX6_weakest_14 (i := 0) rfl rfl ?_
    refine J_getR (b := o + 1) hx fl_X6_10 cl_X6 dX6_weakest_15 hC.o (by decide) rfl hC.r0 ?_
    refine J_getR (b := o + 1 + 10) hx fl_X6_199 cl_X5 dX6_weakest_18 hC.y0.o (by decide) rfl hC.y0.r7 ?_
    refine J_iload_n hx dX6_weakest_21 (i := 1) rfl rfl ?_
    refine J_iald2 (v := (((S.1.ch cN).length : Nat) : Int)) hx cN dX6_weakest_22 hC.y0.k10 (by omega) (hC.y0.l10 (by omega)) (hN.y.sz (by omega)) ?_
    have rg3 := hW.y.len8 (c := cN) (by omega)
    have rg4 := hW.y.lenN (c := cN) (by omega)
    refine J_iconst (v := 2) hx dX6_weakest_23 (by decide) ?_
    refine J_icmp_ge (tgt := 34) hx dX6_weakest_24 (by decide) (fun c5 => ?_) (fun c5 => ?_)
    · refine J_aload_n hx dX6_weakest_34 (i := 0) rfl rfl ?_
      refine J_getR (b := o + 1) hx fl_X6_10 cl_X6 dX6_weakest_35 hC.o (by decide) rfl hC.r0 ?_
      refine J_iload_n hx dX6_weakest_38 (i := 1) rfl rfl ?_
      refine J_invV (As := [vI (((cN : Nat) : Int))]) (st := []) hx lk_X6_211 okX5_weakestJoint dX6_weakest_39 hC.y0.o (by decide) rfl rfl rfl (Nat.le_of_ble_eq_true rfl) (Nat.zero_add _).symm (Nat.zero_add _).symm rfl (c_X5_weakestJoint hC.y0 hN.y hW.y (c := cN) (by omega) (by omega) ?_)
      refine J_iret hx hr dX6_weakest_42 ?_
      exact hQ.same (v := ((weakY S.1 (S.1.ch cN) : Nat) : Int)) (S := S) (by
        unfold a_weakest
        all_goals (try unfold overY at *)
        all_goals (try unfold mayQ at *)
        all_goals (try simp only [Int.toNat_natCast] at *)
        all_goals ((repeat' split) <;> first | rfl | (exfalso; omega) | (congr 1; omega))) hC hN
    · refine J_aload_n hx dX6_weakest_27 (i := 0) rfl rfl ?_
      refine J_bipush (v := -5) hx dX6_weakest_28 (by decide) ?_
      refine J_invV (As := [vI ((-5))]) (st := []) hx lk_X6_67 okX6_refuse dX6_weakest_30 hC.o (by decide) rfl rfl rfl (Nat.le_of_ble_eq_true rfl) (Nat.zero_add _).symm (Nat.zero_add _).symm rfl (c_X6_refuse hC hN hW (k := 3) (by decide) ?_)
      intro M1 hN1 hf1
      refine J_iret hx hr dX6_weakest_33 ?_
      exact hQ.to (v := -((3 + 2 : Nat) : Int)) (S := rfS S 3) (by
        unfold a_weakest
        all_goals (try unfold overY at *)
        all_goals (try unfold mayQ at *)
        all_goals (try simp only [Int.toNat_natCast] at *)
        all_goals ((repeat' split) <;> first | rfl | (exfalso; omega) | (congr 1; omega))) hC hN1 hf1
  · refine J_aload_n hx dX6_weakest_7 (i := 0) rfl rfl ?_
    refine J_bipush (v := -2) hx dX6_weakest_8 (by decide) ?_
    refine J_invV (As := [vI ((-2))]) (st := []) hx lk_X6_67 okX6_refuse dX6_weakest_10 hC.o (by decide) rfl rfl rfl (Nat.le_of_ble_eq_true rfl) (Nat.zero_add _).symm (Nat.zero_add _).symm rfl (c_X6_refuse hC hN hW (k := 0) (by decide) ?_)
    intro M1 hN1 hf1
    refine J_iret hx hr dX6_weakest_13 ?_
    exact hQ.to (v := -((0 + 2 : Nat) : Int)) (S := rfS S 0) (by
      unfold a_weakest
      all_goals (try unfold overY at *)
      all_goals (try unfold mayQ at *)
      all_goals (try simp only [Int.toNat_natCast] at *)
      all_goals ((repeat' split) <;> first | rfl | (exfalso; omega) | (congr 1; omega))) hC hN1 hf1

set_option maxHeartbeats 4000000 in
theorem c_X6_strongest {g : WG} {d : Nat} {T : TT} {M : MM} {o sz : Nat} {S : ST} {Q : MVal → TT → MM → Nat → Prop} (hC : CT T o) (hN : CN M o S) (hW : WFS S) {c : Int} (h_c : -2147483648 ≤ c ∧ c ≤ 2147483647) (hQ : CQ o T M sz Q (a_strongest S c)) : Ct g (d + 4) mX6_strongest [vR (o), vI (c)] T M sz 0 0 Q := by
  refine Ct_of2 (ls := [vR (o), vI (c)]) okX6_strongest rfl (Nat.le_of_ble_eq_true rfl) rfl ?_
  intro x hx hr hnm
  have hn8 := hW.y.n8
  have ht2 := hW.y.tn2
  have hl8 := hW.y.len8 ht2
  refine J_iload_n hx dX6_strongest_0 (i := 1) rfl rfl ?_
  refine J_invS (As := [vI (c)]) (st := []) hx lk_X6_132 okX6_isChain dX6_strongest_1 rfl rfl (Nat.le_of_ble_eq_true rfl) (Nat.zero_add _).symm (Nat.zero_add _).symm rfl (c_X6_isChain (a := c) ?_)
  intro v1 hv1
  refine J_if_ne (tgt := 14) hx dX6_strongest_4 (by decide) (fun c2 => ?_) (fun c2 => ?_)
  · obtain ⟨cN, rfl⟩ : ∃ z : Nat, c = ((z : Nat) : Int) := ⟨c.toNat, by omega⟩
    refine J_aload_n hx dX6_strongest_14 (i := 0) rfl rfl ?_
    refine J_getR (b := o + 1) hx fl_X6_10 cl_X6 dX6_strongest_15 hC.o (by decide) rfl hC.r0 ?_
    refine J_getR (b := o + 1 + 10) hx fl_X6_199 cl_X5 dX6_strongest_18 hC.y0.o (by decide) rfl hC.y0.r7 ?_
    refine J_iload_n hx dX6_strongest_21 (i := 1) rfl rfl ?_
    refine J_iald2 (v := (((S.1.ch cN).length : Nat) : Int)) hx cN dX6_strongest_22 hC.y0.k10 (by omega) (hC.y0.l10 (by omega)) (hN.y.sz (by omega)) ?_
    have rg3 := hW.y.len8 (c := cN) (by omega)
    have rg4 := hW.y.lenN (c := cN) (by omega)
    refine J_iconst (v := 2) hx dX6_strongest_23 (by decide) ?_
    refine J_icmp_ge (tgt := 34) hx dX6_strongest_24 (by decide) (fun c5 => ?_) (fun c5 => ?_)
    · refine J_aload_n hx dX6_strongest_34 (i := 0) rfl rfl ?_
      refine J_getR (b := o + 1) hx fl_X6_10 cl_X6 dX6_strongest_35 hC.o (by decide) rfl hC.r0 ?_
      refine J_iload_n hx dX6_strongest_38 (i := 1) rfl rfl ?_
      refine J_invV (As := [vI (((cN : Nat) : Int))]) (st := []) hx lk_X6_214 okX5_strongestJoint dX6_strongest_39 hC.y0.o (by decide) rfl rfl rfl (Nat.le_of_ble_eq_true rfl) (Nat.zero_add _).symm (Nat.zero_add _).symm rfl (c_X5_strongestJoint hC.y0 hN.y hW.y (c := cN) (by omega) (by omega) ?_)
      refine J_iret hx hr dX6_strongest_42 ?_
      exact hQ.same (v := ((stroY S.1 (S.1.ch cN) : Nat) : Int)) (S := S) (by
        unfold a_strongest
        all_goals (try unfold overY at *)
        all_goals (try unfold mayQ at *)
        all_goals (try simp only [Int.toNat_natCast] at *)
        all_goals ((repeat' split) <;> first | rfl | (exfalso; omega) | (congr 1; omega))) hC hN
    · refine J_aload_n hx dX6_strongest_27 (i := 0) rfl rfl ?_
      refine J_bipush (v := -5) hx dX6_strongest_28 (by decide) ?_
      refine J_invV (As := [vI ((-5))]) (st := []) hx lk_X6_67 okX6_refuse dX6_strongest_30 hC.o (by decide) rfl rfl rfl (Nat.le_of_ble_eq_true rfl) (Nat.zero_add _).symm (Nat.zero_add _).symm rfl (c_X6_refuse hC hN hW (k := 3) (by decide) ?_)
      intro M1 hN1 hf1
      refine J_iret hx hr dX6_strongest_33 ?_
      exact hQ.to (v := -((3 + 2 : Nat) : Int)) (S := rfS S 3) (by
        unfold a_strongest
        all_goals (try unfold overY at *)
        all_goals (try unfold mayQ at *)
        all_goals (try simp only [Int.toNat_natCast] at *)
        all_goals ((repeat' split) <;> first | rfl | (exfalso; omega) | (congr 1; omega))) hC hN1 hf1
  · refine J_aload_n hx dX6_strongest_7 (i := 0) rfl rfl ?_
    refine J_bipush (v := -2) hx dX6_strongest_8 (by decide) ?_
    refine J_invV (As := [vI ((-2))]) (st := []) hx lk_X6_67 okX6_refuse dX6_strongest_10 hC.o (by decide) rfl rfl rfl (Nat.le_of_ble_eq_true rfl) (Nat.zero_add _).symm (Nat.zero_add _).symm rfl (c_X6_refuse hC hN hW (k := 0) (by decide) ?_)
    intro M1 hN1 hf1
    refine J_iret hx hr dX6_strongest_13 ?_
    exact hQ.to (v := -((0 + 2 : Nat) : Int)) (S := rfS S 0) (by
      unfold a_strongest
      all_goals (try unfold overY at *)
      all_goals (try unfold mayQ at *)
      all_goals (try simp only [Int.toNat_natCast] at *)
      all_goals ((repeat' split) <;> first | rfl | (exfalso; omega) | (congr 1; omega))) hC hN1 hf1

set_option maxHeartbeats 4000000 in
theorem c_X6_hardest {g : WG} {d : Nat} {T : TT} {M : MM} {o sz : Nat} {S : ST} {Q : MVal → TT → MM → Nat → Prop} (hC : CT T o) (hN : CN M o S) (hW : WFS S) {c : Int} (h_c : -2147483648 ≤ c ∧ c ≤ 2147483647) (hQ : CQ o T M sz Q (a_hardest S c)) : Ct g (d + 3) mX6_hardest [vR (o), vI (c)] T M sz 0 0 Q := by
  refine Ct_of2 (ls := [vR (o), vI (c)]) okX6_hardest rfl (Nat.le_of_ble_eq_true rfl) rfl ?_
  intro x hx hr hnm
  have hn8 := hW.y.n8
  have ht2 := hW.y.tn2
  have hl8 := hW.y.len8 ht2
  refine J_iload_n hx dX6_hardest_0 (i := 1) rfl rfl ?_
  refine J_invS (As := [vI (c)]) (st := []) hx lk_X6_132 okX6_isChain dX6_hardest_1 rfl rfl (Nat.le_of_ble_eq_true rfl) (Nat.zero_add _).symm (Nat.zero_add _).symm rfl (c_X6_isChain (a := c) ?_)
  intro v1 hv1
  refine J_if_ne (tgt := 14) hx dX6_hardest_4 (by decide) (fun c2 => ?_) (fun c2 => ?_)
  · obtain ⟨cN, rfl⟩ : ∃ z : Nat, c = ((z : Nat) : Int) := ⟨c.toNat, by omega⟩
    refine J_aload_n hx dX6_hardest_14 (i := 0) rfl rfl ?_
    refine J_getR (b := o + 1) hx fl_X6_10 cl_X6 dX6_hardest_15 hC.o (by decide) rfl hC.r0 ?_
    refine J_getR (b := o + 1 + 10) hx fl_X6_199 cl_X5 dX6_hardest_18 hC.y0.o (by decide) rfl hC.y0.r7 ?_
    refine J_iload_n hx dX6_hardest_21 (i := 1) rfl rfl ?_
    refine J_iald2 (v := (((S.1.ch cN).length : Nat) : Int)) hx cN dX6_hardest_22 hC.y0.k10 (by omega) (hC.y0.l10 (by omega)) (hN.y.sz (by omega)) ?_
    have rg3 := hW.y.len8 (c := cN) (by omega)
    have rg4 := hW.y.lenN (c := cN) (by omega)
    refine J_iconst (v := 1) hx dX6_hardest_23 (by decide) ?_
    refine J_icmp_ge (tgt := 34) hx dX6_hardest_24 (by decide) (fun c5 => ?_) (fun c5 => ?_)
    · refine J_aload_n hx dX6_hardest_34 (i := 0) rfl rfl ?_
      refine J_getR (b := o + 1) hx fl_X6_10 cl_X6 dX6_hardest_35 hC.o (by decide) rfl hC.r0 ?_
      refine J_iload_n hx dX6_hardest_38 (i := 1) rfl rfl ?_
      refine J_invV (As := [vI (((cN : Nat) : Int))]) (st := []) hx lk_X6_217 okX5_mostForceful dX6_hardest_39 hC.y0.o (by decide) rfl rfl rfl (Nat.le_of_ble_eq_true rfl) (Nat.zero_add _).symm (Nat.zero_add _).symm rfl (c_X5_mostForceful hC.y0 hN.y hW.y (c := cN) (by omega) (by omega) ?_)
      refine J_iret hx hr dX6_hardest_42 ?_
      exact hQ.same (v := (((S.1.ch cN).getD (hardY S.1 (S.1.ch cN)) 0 : Nat) : Int)) (S := S) (by
        unfold a_hardest
        all_goals (try unfold overY at *)
        all_goals (try unfold mayQ at *)
        all_goals (try simp only [Int.toNat_natCast] at *)
        all_goals ((repeat' split) <;> first | rfl | (exfalso; omega) | (congr 1; omega))) hC hN
    · refine J_aload_n hx dX6_hardest_27 (i := 0) rfl rfl ?_
      refine J_bipush (v := -5) hx dX6_hardest_28 (by decide) ?_
      refine J_invV (As := [vI ((-5))]) (st := []) hx lk_X6_67 okX6_refuse dX6_hardest_30 hC.o (by decide) rfl rfl rfl (Nat.le_of_ble_eq_true rfl) (Nat.zero_add _).symm (Nat.zero_add _).symm rfl (c_X6_refuse hC hN hW (k := 3) (by decide) ?_)
      intro M1 hN1 hf1
      refine J_iret hx hr dX6_hardest_33 ?_
      exact hQ.to (v := -((3 + 2 : Nat) : Int)) (S := rfS S 3) (by
        unfold a_hardest
        all_goals (try unfold overY at *)
        all_goals (try unfold mayQ at *)
        all_goals (try simp only [Int.toNat_natCast] at *)
        all_goals ((repeat' split) <;> first | rfl | (exfalso; omega) | (congr 1; omega))) hC hN1 hf1
  · refine J_aload_n hx dX6_hardest_7 (i := 0) rfl rfl ?_
    refine J_bipush (v := -2) hx dX6_hardest_8 (by decide) ?_
    refine J_invV (As := [vI ((-2))]) (st := []) hx lk_X6_67 okX6_refuse dX6_hardest_10 hC.o (by decide) rfl rfl rfl (Nat.le_of_ble_eq_true rfl) (Nat.zero_add _).symm (Nat.zero_add _).symm rfl (c_X6_refuse hC hN hW (k := 0) (by decide) ?_)
    intro M1 hN1 hf1
    refine J_iret hx hr dX6_hardest_13 ?_
    exact hQ.to (v := -((0 + 2 : Nat) : Int)) (S := rfS S 0) (by
      unfold a_hardest
      all_goals (try unfold overY at *)
      all_goals (try unfold mayQ at *)
      all_goals (try simp only [Int.toNat_natCast] at *)
      all_goals ((repeat' split) <;> first | rfl | (exfalso; omega) | (congr 1; omega))) hC hN1 hf1

set_option maxHeartbeats 4000000 in
theorem c_X6_strength {g : WG} {d : Nat} {T : TT} {M : MM} {o sz : Nat} {S : ST} {Q : MVal → TT → MM → Nat → Prop} (hC : CT T o) (hN : CN M o S) (hW : WFS S) {c j : Int} (h_c : -2147483648 ≤ c ∧ c ≤ 2147483647) (h_j : -2147483648 ≤ j ∧ j ≤ 2147483647) (hQ : CQ o T M sz Q (a_strength S c j)) : Ct g (d + 3) mX6_strength [vR (o), vI (c), vI (j)] T M sz 0 0 Q := by
  refine Ct_of2 (ls := [vR (o), vI (c), vI (j)]) okX6_strength rfl (Nat.le_of_ble_eq_true rfl) rfl ?_
  intro x hx hr hnm
  have hn8 := hW.y.n8
  have ht2 := hW.y.tn2
  have hl8 := hW.y.len8 ht2
  refine J_iload_n hx dX6_strength_0 (i := 1) rfl rfl ?_
  refine J_invS (As := [vI (c)]) (st := []) hx lk_X6_132 okX6_isChain dX6_strength_1 rfl rfl (Nat.le_of_ble_eq_true rfl) (Nat.zero_add _).symm (Nat.zero_add _).symm rfl (c_X6_isChain (a := c) ?_)
  intro v1 hv1
  refine J_if_eq (tgt := 19) hx dX6_strength_4 (by decide) (fun c2 => ?_) (fun c2 => ?_)
  · refine J_aload_n hx dX6_strength_19 (i := 0) rfl rfl ?_
    refine J_bipush (v := -2) hx dX6_strength_20 (by decide) ?_
    refine J_invV (As := [vI ((-2))]) (st := []) hx lk_X6_67 okX6_refuse dX6_strength_22 hC.o (by decide) rfl rfl rfl (Nat.le_of_ble_eq_true rfl) (Nat.zero_add _).symm (Nat.zero_add _).symm rfl (c_X6_refuse hC hN hW (k := 0) (by decide) ?_)
    intro M1 hN1 hf1
    refine J_iret hx hr dX6_strength_25 ?_
    exact hQ.to (v := -((0 + 2 : Nat) : Int)) (S := rfS S 0) (by
      unfold a_strength
      all_goals (try unfold overY at *)
      all_goals (try unfold mayQ at *)
      all_goals (try simp only [Int.toNat_natCast] at *)
      all_goals ((repeat' split) <;> first | rfl | (exfalso; omega) | (congr 1; omega))) hC hN1 hf1
  · obtain ⟨cN, rfl⟩ : ∃ z : Nat, c = ((z : Nat) : Int) := ⟨c.toNat, by omega⟩
    refine J_aload_n hx dX6_strength_7 (i := 0) rfl rfl ?_
    refine J_getR (b := o + 1) hx fl_X6_10 cl_X6 dX6_strength_8 hC.o (by decide) rfl hC.r0 ?_
    refine J_iload_n hx dX6_strength_11 (i := 1) rfl rfl ?_
    refine J_iload_n hx dX6_strength_12 (i := 2) rfl rfl ?_
    refine J_invV (As := [vI (((cN : Nat) : Int)), vI (j)]) (st := []) hx lk_X6_205 okX5_hasJoint dX6_strength_13 hC.y0.o (by decide) rfl rfl rfl (Nat.le_of_ble_eq_true rfl) (Nat.zero_add _).symm (Nat.zero_add _).symm rfl (c_X5_hasJoint hC.y0 hN.y hW.y (c := cN) (by omega) (k := j) ?_)
    intro v3 hv3
    refine J_if_ne (tgt := 26) hx dX6_strength_16 (by decide) (fun c4 => ?_) (fun c4 => ?_)
    · obtain ⟨jN, rfl⟩ : ∃ z : Nat, j = ((z : Nat) : Int) := ⟨j.toNat, by omega⟩
      refine J_aload_n hx dX6_strength_26 (i := 0) rfl rfl ?_
      refine J_getR (b := o + 1) hx fl_X6_10 cl_X6 dX6_strength_27 hC.o (by decide) rfl hC.r0 ?_
      refine J_iload_n hx dX6_strength_30 (i := 1) rfl rfl ?_
      refine J_iload_n hx dX6_strength_31 (i := 2) rfl rfl ?_
      refine J_invV (As := [vI (((cN : Nat) : Int)), vI (((jN : Nat) : Int))]) (st := []) hx lk_X6_208 okX5_strengthAt dX6_strength_32 hC.y0.o (by decide) rfl rfl rfl (Nat.le_of_ble_eq_true rfl) (Nat.zero_add _).symm (Nat.zero_add _).symm rfl (c_X5_strengthAt hC.y0 hN.y hW.y (c := cN) (by omega) (j := jN) (by omega) ?_)
      have rg5 := strl_rg hW.y (l := S.1.ch cN) (fun p hp => hW.y.lt (by omega) hp) (j := jN) (by omega)
      refine J_iret hx hr dX6_strength_35 ?_
      exact hQ.same (v := strl S.1 (S.1.ch cN) jN) (S := S) (by
        unfold a_strength
        all_goals (try unfold overY at *)
        all_goals (try unfold mayQ at *)
        all_goals (try simp only [Int.toNat_natCast] at *)
        all_goals ((repeat' split) <;> first | rfl | (exfalso; omega) | (congr 1; omega))) hC hN
    · refine J_aload_n hx dX6_strength_19 (i := 0) rfl rfl ?_
      refine J_bipush (v := -2) hx dX6_strength_20 (by decide) ?_
      refine J_invV (As := [vI ((-2))]) (st := []) hx lk_X6_67 okX6_refuse dX6_strength_22 hC.o (by decide) rfl rfl rfl (Nat.le_of_ble_eq_true rfl) (Nat.zero_add _).symm (Nat.zero_add _).symm rfl (c_X6_refuse hC hN hW (k := 0) (by decide) ?_)
      intro M1 hN1 hf1
      refine J_iret hx hr dX6_strength_25 ?_
      exact hQ.to (v := -((0 + 2 : Nat) : Int)) (S := rfS S 0) (by
        unfold a_strength
        all_goals (try unfold overY at *)
        all_goals (try unfold mayQ at *)
        all_goals (try simp only [Int.toNat_natCast] at *)
        all_goals ((repeat' split) <;> first | rfl | (exfalso; omega) | (congr 1; omega))) hC hN1 hf1

set_option maxHeartbeats 4000000 in
theorem c_X6_chainOf {g : WG} {d : Nat} {T : TT} {M : MM} {o sz : Nat} {S : ST} {Q : MVal → TT → MM → Nat → Prop} (hC : CT T o) (hN : CN M o S) (hW : WFS S) {c k : Int} (h_c : -2147483648 ≤ c ∧ c ≤ 2147483647) (h_k : -2147483648 ≤ k ∧ k ≤ 2147483647) (hQ : CQ o T M sz Q (a_chainOf S c k)) : Ct g (d + 2) mX6_chainOf [vR (o), vI (c), vI (k)] T M sz 0 0 Q := by
  refine Ct_of2 (ls := [vR (o), vI (c), vI (k)]) okX6_chainOf rfl (Nat.le_of_ble_eq_true rfl) rfl ?_
  intro x hx hr hnm
  have hn8 := hW.y.n8
  have ht2 := hW.y.tn2
  have hl8 := hW.y.len8 ht2
  refine J_iload_n hx dX6_chainOf_0 (i := 1) rfl rfl ?_
  refine J_invS (As := [vI (c)]) (st := []) hx lk_X6_132 okX6_isChain dX6_chainOf_1 rfl rfl (Nat.le_of_ble_eq_true rfl) (Nat.zero_add _).symm (Nat.zero_add _).symm rfl (c_X6_isChain (a := c) ?_)
  intro v1 hv1
  refine J_if_eq (tgt := 24) hx dX6_chainOf_4 (by decide) (fun c2 => ?_) (fun c2 => ?_)
  · refine J_aload_n hx dX6_chainOf_24 (i := 0) rfl rfl ?_
    refine J_bipush (v := -2) hx dX6_chainOf_25 (by decide) ?_
    refine J_invV (As := [vI ((-2))]) (st := []) hx lk_X6_67 okX6_refuse dX6_chainOf_27 hC.o (by decide) rfl rfl rfl (Nat.le_of_ble_eq_true rfl) (Nat.zero_add _).symm (Nat.zero_add _).symm rfl (c_X6_refuse hC hN hW (k := 0) (by decide) ?_)
    intro M1 hN1 hf1
    refine J_iret hx hr dX6_chainOf_30 ?_
    exact hQ.to (v := -((0 + 2 : Nat) : Int)) (S := rfS S 0) (by
      unfold a_chainOf
      all_goals (try unfold overY at *)
      all_goals (try unfold mayQ at *)
      all_goals (try simp only [Int.toNat_natCast] at *)
      all_goals ((repeat' split) <;> first | rfl | (exfalso; omega) | (congr 1; omega))) hC hN1 hf1
  · refine J_iload_n hx dX6_chainOf_7 (i := 2) rfl rfl ?_
    refine J_iconst (v := -1) hx dX6_chainOf_8 (by decide) ?_
    refine J_icmp_eq (tgt := 31) hx dX6_chainOf_9 (by decide) (fun c3 => ?_) (fun c3 => ?_)
    · refine J_iload_n hx dX6_chainOf_31 (i := 2) rfl rfl ?_
      refine J_iconst (v := -1) hx dX6_chainOf_32 (by decide) ?_
      refine J_icmp_ne (tgt := 48) hx dX6_chainOf_33 (by decide) (fun c4 => ?_) (fun c4 => ?_)
      · obtain ⟨cN, rfl⟩ : ∃ z : Nat, c = ((z : Nat) : Int) := ⟨c.toNat, by omega⟩
        obtain ⟨kN, rfl⟩ : ∃ z : Nat, k = ((z : Nat) : Int) := ⟨k.toNat, by omega⟩
        have hl9 := hW.y.len8 (c := cN) (by omega)
        refine J_aload_n hx dX6_chainOf_48 (i := 0) rfl rfl ?_
        refine J_getR (b := o + 1) hx fl_X6_10 cl_X6 dX6_chainOf_49 hC.o (by decide) rfl hC.r0 ?_
        refine J_getR (b := o + 1 + 7) hx fl_X6_201 cl_X5 dX6_chainOf_52 hC.y0.o (by decide) rfl hC.y0.r6 ?_
        refine J_iload_n hx dX6_chainOf_55 (i := 1) rfl rfl ?_
        refine J_aald (b := o + 1 + 8 + cN) hx cN dX6_chainOf_56 hC.y0.k7 (by decide) (by omega) (hC.y0.l7 (by omega)) (hC.y0.f7 (by omega)) ?_
        refine J_iload_n hx dX6_chainOf_57 (i := 2) rfl rfl ?_
        refine J_iald2 (v := (((S.1.ch cN).getD kN 0 : Nat) : Int)) hx kN dX6_chainOf_58 (hC.y0.kl (by omega)) (by omega) (hC.y0.ll (by omega) (by omega)) (hN.y.ln (by omega) (by omega)) ?_
        have rg5 := hW.y.at (c := cN) (k := kN) (by omega) (by omega)
        refine J_iret hx hr dX6_chainOf_59 ?_
        exact hQ.same (v := (((S.1.ch cN).getD kN 0 : Nat) : Int)) (S := S) (by
          unfold a_chainOf
          all_goals (try unfold overY at *)
          all_goals (try unfold mayQ at *)
          all_goals (try simp only [Int.toNat_natCast] at *)
          all_goals ((repeat' split) <;> first | rfl | (exfalso; omega) | (congr 1; omega))) hC hN
      · obtain ⟨cN, rfl⟩ : ∃ z : Nat, c = ((z : Nat) : Int) := ⟨c.toNat, by omega⟩
        refine J_aload_n hx dX6_chainOf_36 (i := 0) rfl rfl ?_
        refine J_getR (b := o + 1) hx fl_X6_10 cl_X6 dX6_chainOf_37 hC.o (by decide) rfl hC.r0 ?_
        refine J_getR (b := o + 1 + 10) hx fl_X6_199 cl_X5 dX6_chainOf_40 hC.y0.o (by decide) rfl hC.y0.r7 ?_
        refine J_iload_n hx dX6_chainOf_43 (i := 1) rfl rfl ?_
        refine J_iald2 (v := (((S.1.ch cN).length : Nat) : Int)) hx cN dX6_chainOf_44 hC.y0.k10 (by omega) (hC.y0.l10 (by omega)) (hN.y.sz (by omega)) ?_
        have rg6 := hW.y.len8 (c := cN) (by omega)
        have rg7 := hW.y.lenN (c := cN) (by omega)
        refine J_goto (tgt := 59) hx dX6_chainOf_45 (by decide) ?_
        refine J_iret hx hr dX6_chainOf_59 ?_
        exact hQ.same (v := (((S.1.ch cN).length : Nat) : Int)) (S := S) (by
          unfold a_chainOf
          all_goals (try unfold overY at *)
          all_goals (try unfold mayQ at *)
          all_goals (try simp only [Int.toNat_natCast] at *)
          all_goals ((repeat' split) <;> first | rfl | (exfalso; omega) | (congr 1; omega))) hC hN
    · obtain ⟨cN, rfl⟩ : ∃ z : Nat, c = ((z : Nat) : Int) := ⟨c.toNat, by omega⟩
      refine J_aload_n hx dX6_chainOf_12 (i := 0) rfl rfl ?_
      refine J_getR (b := o + 1) hx fl_X6_10 cl_X6 dX6_chainOf_13 hC.o (by decide) rfl hC.r0 ?_
      refine J_iload_n hx dX6_chainOf_16 (i := 1) rfl rfl ?_
      refine J_iload_n hx dX6_chainOf_17 (i := 2) rfl rfl ?_
      refine J_invV (As := [vI (((cN : Nat) : Int)), vI (k)]) (st := []) hx lk_X6_196 okX5_hasPlace dX6_chainOf_18 hC.y0.o (by decide) rfl rfl rfl (Nat.le_of_ble_eq_true rfl) (Nat.zero_add _).symm (Nat.zero_add _).symm rfl (c_X5_hasPlace hC.y0 hN.y hW.y (c := cN) (by omega) (k := k) ?_)
      intro v8 hv8
      refine J_if_ne (tgt := 31) hx dX6_chainOf_21 (by decide) (fun c9 => ?_) (fun c9 => ?_)
      · refine J_iload_n hx dX6_chainOf_31 (i := 2) rfl rfl ?_
        refine J_iconst (v := -1) hx dX6_chainOf_32 (by decide) ?_
        refine J_icmp_ne (tgt := 48) hx dX6_chainOf_33 (by decide) (fun c10 => ?_) (fun c10 => ?_)
        · obtain ⟨kN, rfl⟩ : ∃ z : Nat, k = ((z : Nat) : Int) := ⟨k.toNat, by omega⟩
          have hl9 := hW.y.len8 (c := cN) (by omega)
          refine J_aload_n hx dX6_chainOf_48 (i := 0) rfl rfl ?_
          refine J_getR (b := o + 1) hx fl_X6_10 cl_X6 dX6_chainOf_49 hC.o (by decide) rfl hC.r0 ?_
          refine J_getR (b := o + 1 + 7) hx fl_X6_201 cl_X5 dX6_chainOf_52 hC.y0.o (by decide) rfl hC.y0.r6 ?_
          refine J_iload_n hx dX6_chainOf_55 (i := 1) rfl rfl ?_
          refine J_aald (b := o + 1 + 8 + cN) hx cN dX6_chainOf_56 hC.y0.k7 (by decide) (by omega) (hC.y0.l7 (by omega)) (hC.y0.f7 (by omega)) ?_
          refine J_iload_n hx dX6_chainOf_57 (i := 2) rfl rfl ?_
          refine J_iald2 (v := (((S.1.ch cN).getD kN 0 : Nat) : Int)) hx kN dX6_chainOf_58 (hC.y0.kl (by omega)) (by omega) (hC.y0.ll (by omega) (by omega)) (hN.y.ln (by omega) (by omega)) ?_
          have rg11 := hW.y.at (c := cN) (k := kN) (by omega) (by omega)
          refine J_iret hx hr dX6_chainOf_59 ?_
          exact hQ.same (v := (((S.1.ch cN).getD kN 0 : Nat) : Int)) (S := S) (by
            unfold a_chainOf
            all_goals (try unfold overY at *)
            all_goals (try unfold mayQ at *)
            all_goals (try simp only [Int.toNat_natCast] at *)
            all_goals ((repeat' split) <;> first | rfl | (exfalso; omega) | (congr 1; omega))) hC hN
        · refine J_aload_n hx dX6_chainOf_36 (i := 0) rfl rfl ?_
          refine J_getR (b := o + 1) hx fl_X6_10 cl_X6 dX6_chainOf_37 hC.o (by decide) rfl hC.r0 ?_
          refine J_getR (b := o + 1 + 10) hx fl_X6_199 cl_X5 dX6_chainOf_40 hC.y0.o (by decide) rfl hC.y0.r7 ?_
          refine J_iload_n hx dX6_chainOf_43 (i := 1) rfl rfl ?_
          refine J_iald2 (v := (((S.1.ch cN).length : Nat) : Int)) hx cN dX6_chainOf_44 hC.y0.k10 (by omega) (hC.y0.l10 (by omega)) (hN.y.sz (by omega)) ?_
          have rg12 := hW.y.len8 (c := cN) (by omega)
          have rg13 := hW.y.lenN (c := cN) (by omega)
          refine J_goto (tgt := 59) hx dX6_chainOf_45 (by decide) ?_
          refine J_iret hx hr dX6_chainOf_59 ?_
          exact hQ.same (v := (((S.1.ch cN).length : Nat) : Int)) (S := S) (by
            unfold a_chainOf
            all_goals (try unfold overY at *)
            all_goals (try unfold mayQ at *)
            all_goals (try simp only [Int.toNat_natCast] at *)
            all_goals ((repeat' split) <;> first | rfl | (exfalso; omega) | (congr 1; omega))) hC hN
      · refine J_aload_n hx dX6_chainOf_24 (i := 0) rfl rfl ?_
        refine J_bipush (v := -2) hx dX6_chainOf_25 (by decide) ?_
        refine J_invV (As := [vI ((-2))]) (st := []) hx lk_X6_67 okX6_refuse dX6_chainOf_27 hC.o (by decide) rfl rfl rfl (Nat.le_of_ble_eq_true rfl) (Nat.zero_add _).symm (Nat.zero_add _).symm rfl (c_X6_refuse hC hN hW (k := 0) (by decide) ?_)
        intro M1 hN1 hf1
        refine J_iret hx hr dX6_chainOf_30 ?_
        exact hQ.to (v := -((0 + 2 : Nat) : Int)) (S := rfS S 0) (by
          unfold a_chainOf
          all_goals (try unfold overY at *)
          all_goals (try unfold mayQ at *)
          all_goals (try simp only [Int.toNat_natCast] at *)
          all_goals ((repeat' split) <;> first | rfl | (exfalso; omega) | (congr 1; omega))) hC hN1 hf1

set_option maxHeartbeats 4000000 in
theorem c_X6_oneOf {g : WG} {d : Nat} {T : TT} {M : MM} {o sz : Nat} {S : ST} {Q : MVal → TT → MM → Nat → Prop} (hC : CT T o) (hN : CN M o S) (hW : WFS S) {p w : Int} (h_p : -2147483648 ≤ p ∧ p ≤ 2147483647) (h_w : -2147483648 ≤ w ∧ w ≤ 2147483647) (hQ : CQ o T M sz Q (a_oneOf S p w)) : Ct g (d + 2) mX6_oneOf [vR (o), vI (p), vI (w)] T M sz 0 0 Q := by
  refine Ct_of2 (ls := [vR (o), vI (p), vI (w)]) okX6_oneOf rfl (Nat.le_of_ble_eq_true rfl) rfl ?_
  intro x hx hr hnm
  have hn8 := hW.y.n8
  have ht2 := hW.y.tn2
  have hl8 := hW.y.len8 ht2
  refine J_aload_n hx dX6_oneOf_0 (i := 0) rfl rfl ?_
  refine J_getR (b := o + 1) hx fl_X6_10 cl_X6 dX6_oneOf_1 hC.o (by decide) rfl hC.r0 ?_
  refine J_iload_n hx dX6_oneOf_4 (i := 1) rfl rfl ?_
  refine J_invV (As := [vI (p)]) (st := []) hx lk_X6_111 okX5_has dX6_oneOf_5 hC.y0.o (by decide) rfl rfl rfl (Nat.le_of_ble_eq_true rfl) (Nat.zero_add _).symm (Nat.zero_add _).symm rfl (c_X5_has hC.y0 hN.y hW.y (one := p) ?_)
  intro v1 hv1
  refine J_if_ne (tgt := 18) hx dX6_oneOf_8 (by decide) (fun c2 => ?_) (fun c2 => ?_)
  · obtain ⟨pN, rfl⟩ : ∃ z : Nat, p = ((z : Nat) : Int) := ⟨p.toNat, by omega⟩
    refine J_iload_n hx dX6_oneOf_18 (i := 2) rfl rfl ?_
    by_cases t3_0 : w = 0
    · refine J_tswIn (tgt := 64) (off := 45) hx dX6_oneOf_19 (by omega) (by omega) (by rw [t3_0]; rfl) (by decide) ?_
      refine J_aload_n hx dX6_oneOf_64 (i := 0) rfl rfl ?_
      refine J_getR (b := o + 1) hx fl_X6_10 cl_X6 dX6_oneOf_65 hC.o (by decide) rfl hC.r0 ?_
      refine J_getR (b := o + 1 + 1) hx fl_X6_114 cl_X5 dX6_oneOf_68 hC.y0.o (by decide) rfl hC.y0.r0 ?_
      refine J_iload_n hx dX6_oneOf_71 (i := 1) rfl rfl ?_
      refine J_iald2 (v := S.1.att 0 pN) hx pN dX6_oneOf_72 hC.y0.k1 (by omega) (hC.y0.l1 (by omega)) (hN.y.kd (by omega)) ?_
      have rg4 := hW.y.kd (p := pN) (by omega)
      refine J_iret hx hr dX6_oneOf_73 ?_
      exact hQ.same (v := S.1.att 0 pN) (S := S) (by
        unfold a_oneOf
        all_goals (try unfold overY at *)
        all_goals (try unfold mayQ at *)
        all_goals (try simp only [Int.toNat_natCast] at *)
        all_goals ((repeat' split) <;> first | rfl | (exfalso; omega) | (congr 1; omega) | (congr 1; simp_all))) hC hN
    by_cases t3_1 : w = 1
    · refine J_tswIn (tgt := 74) (off := 55) hx dX6_oneOf_19 (by omega) (by omega) (by rw [t3_1]; rfl) (by decide) ?_
      refine J_aload_n hx dX6_oneOf_74 (i := 0) rfl rfl ?_
      refine J_getR (b := o + 1) hx fl_X6_10 cl_X6 dX6_oneOf_75 hC.o (by decide) rfl hC.r0 ?_
      refine J_getR (b := o + 1 + 2) hx fl_X6_145 cl_X5 dX6_oneOf_78 hC.y0.o (by decide) rfl hC.y0.r1 ?_
      refine J_iload_n hx dX6_oneOf_81 (i := 1) rfl rfl ?_
      refine J_iald2 (v := S.1.att 1 pN) hx pN dX6_oneOf_82 hC.y0.k2 (by omega) (hC.y0.l2 (by omega)) (hN.y.gr (by omega)) ?_
      have rg5 := hW.y.gr (p := pN) (by omega)
      refine J_iret hx hr dX6_oneOf_83 ?_
      exact hQ.same (v := S.1.att 1 pN) (S := S) (by
        unfold a_oneOf
        all_goals (try unfold overY at *)
        all_goals (try unfold mayQ at *)
        all_goals (try simp only [Int.toNat_natCast] at *)
        all_goals ((repeat' split) <;> first | rfl | (exfalso; omega) | (congr 1; omega) | (congr 1; simp_all))) hC hN
    by_cases t3_2 : w = 2
    · refine J_tswIn (tgt := 84) (off := 65) hx dX6_oneOf_19 (by omega) (by omega) (by rw [t3_2]; rfl) (by decide) ?_
      refine J_aload_n hx dX6_oneOf_84 (i := 0) rfl rfl ?_
      refine J_getR (b := o + 1) hx fl_X6_10 cl_X6 dX6_oneOf_85 hC.o (by decide) rfl hC.r0 ?_
      refine J_getR (b := o + 1 + 3) hx fl_X6_148 cl_X5 dX6_oneOf_88 hC.y0.o (by decide) rfl hC.y0.r2 ?_
      refine J_iload_n hx dX6_oneOf_91 (i := 1) rfl rfl ?_
      refine J_iald2 (v := S.1.att 2 pN) hx pN dX6_oneOf_92 hC.y0.k3 (by omega) (hC.y0.l3 (by omega)) (hN.y.we (by omega)) ?_
      have rg6 := hW.y.we (p := pN) (by omega)
      refine J_iret hx hr dX6_oneOf_93 ?_
      exact hQ.same (v := S.1.att 2 pN) (S := S) (by
        unfold a_oneOf
        all_goals (try unfold overY at *)
        all_goals (try unfold mayQ at *)
        all_goals (try simp only [Int.toNat_natCast] at *)
        all_goals ((repeat' split) <;> first | rfl | (exfalso; omega) | (congr 1; omega) | (congr 1; simp_all))) hC hN
    by_cases t3_3 : w = 3
    · refine J_tswIn (tgt := 94) (off := 75) hx dX6_oneOf_19 (by omega) (by omega) (by rw [t3_3]; rfl) (by decide) ?_
      refine J_aload_n hx dX6_oneOf_94 (i := 0) rfl rfl ?_
      refine J_getR (b := o + 1) hx fl_X6_10 cl_X6 dX6_oneOf_95 hC.o (by decide) rfl hC.r0 ?_
      refine J_getR (b := o + 1 + 4) hx fl_X6_151 cl_X5 dX6_oneOf_98 hC.y0.o (by decide) rfl hC.y0.r3 ?_
      refine J_iload_n hx dX6_oneOf_101 (i := 1) rfl rfl ?_
      refine J_iald2 (v := S.1.att 3 pN) hx pN dX6_oneOf_102 hC.y0.k4 (by omega) (hC.y0.l4 (by omega)) (hN.y.ti (by omega)) ?_
      have rg7 := hW.y.ti (p := pN) (by omega)
      refine J_iret hx hr dX6_oneOf_103 ?_
      exact hQ.same (v := S.1.att 3 pN) (S := S) (by
        unfold a_oneOf
        all_goals (try unfold overY at *)
        all_goals (try unfold mayQ at *)
        all_goals (try simp only [Int.toNat_natCast] at *)
        all_goals ((repeat' split) <;> first | rfl | (exfalso; omega) | (congr 1; omega) | (congr 1; simp_all))) hC hN
    by_cases t3_4 : w = 4
    · refine J_tswIn (tgt := 104) (off := 85) hx dX6_oneOf_19 (by omega) (by omega) (by rw [t3_4]; rfl) (by decide) ?_
      refine J_aload_n hx dX6_oneOf_104 (i := 0) rfl rfl ?_
      refine J_getR (b := o + 1) hx fl_X6_10 cl_X6 dX6_oneOf_105 hC.o (by decide) rfl hC.r0 ?_
      refine J_getR (b := o + 1 + 5) hx fl_X6_190 cl_X5 dX6_oneOf_108 hC.y0.o (by decide) rfl hC.y0.r4 ?_
      refine J_iload_n hx dX6_oneOf_111 (i := 1) rfl rfl ?_
      refine J_iald2 (v := S.1.att 4 pN) hx pN dX6_oneOf_112 hC.y0.k5 (by omega) (hC.y0.l5 (by omega)) (hN.y.by_ (by omega)) ?_
      have rg8 := hW.y.by_ (p := pN) (by omega)
      refine J_iret hx hr dX6_oneOf_113 ?_
      exact hQ.same (v := S.1.att 4 pN) (S := S) (by
        unfold a_oneOf
        all_goals (try unfold overY at *)
        all_goals (try unfold mayQ at *)
        all_goals (try simp only [Int.toNat_natCast] at *)
        all_goals ((repeat' split) <;> first | rfl | (exfalso; omega) | (congr 1; omega) | (congr 1; simp_all))) hC hN
    by_cases t3_5 : w = 5
    · refine J_tswIn (tgt := 114) (off := 95) hx dX6_oneOf_19 (by omega) (by omega) (by rw [t3_5]; rfl) (by decide) ?_
      refine J_aload_n hx dX6_oneOf_114 (i := 0) rfl rfl ?_
      refine J_getR (b := o + 1) hx fl_X6_10 cl_X6 dX6_oneOf_115 hC.o (by decide) rfl hC.r0 ?_
      refine J_getR (b := o + 1 + 6) hx fl_X6_120 cl_X5 dX6_oneOf_118 hC.y0.o (by decide) rfl hC.y0.r5 ?_
      refine J_iload_n hx dX6_oneOf_121 (i := 1) rfl rfl ?_
      refine J_iald2 (v := ((S.1.co pN : Nat) : Int)) hx pN dX6_oneOf_122 hC.y0.k6 (by omega) (hC.y0.l6 (by omega)) (hN.y.hm (by omega)) ?_
      have rg9 := S.1.co2 pN
      refine J_iret hx hr dX6_oneOf_123 ?_
      exact hQ.same (v := ((S.1.co pN : Nat) : Int)) (S := S) (by
        unfold a_oneOf
        all_goals (try unfold overY at *)
        all_goals (try unfold mayQ at *)
        all_goals (try simp only [Int.toNat_natCast] at *)
        all_goals ((repeat' split) <;> first | rfl | (exfalso; omega) | (congr 1; omega) | (congr 1; simp_all))) hC hN
    by_cases t3_6 : w = 6
    · refine J_tswIn (tgt := 124) (off := 105) hx dX6_oneOf_19 (by omega) (by omega) (by rw [t3_6]; rfl) (by decide) ?_
      refine J_aload_n hx dX6_oneOf_124 (i := 0) rfl rfl ?_
      refine J_getR (b := o + 1) hx fl_X6_10 cl_X6 dX6_oneOf_125 hC.o (by decide) rfl hC.r0 ?_
      refine J_iload_n hx dX6_oneOf_128 (i := 1) rfl rfl ?_
      refine J_invV (As := [vI (((pN : Nat) : Int))]) (st := []) hx lk_X6_193 okX5_placeOf dX6_oneOf_129 hC.y0.o (by decide) rfl rfl rfl (Nat.le_of_ble_eq_true rfl) (Nat.zero_add _).symm (Nat.zero_add _).symm rfl (c_X5_placeOf hC.y0 hN.y hW.y (p := pN) (by omega) ?_)
      refine J_iret hx hr dX6_oneOf_132 ?_
      exact hQ.same (v := ((plcY S.1 pN : Nat) : Int)) (S := S) (by
        unfold a_oneOf
        all_goals (try unfold overY at *)
        all_goals (try unfold mayQ at *)
        all_goals (try simp only [Int.toNat_natCast] at *)
        all_goals ((repeat' split) <;> first | rfl | (exfalso; omega) | (congr 1; omega) | (congr 1; simp_all))) hC hN
    by_cases t3_7 : w = 7
    · refine J_tswIn (tgt := 133) (off := 114) hx dX6_oneOf_19 (by omega) (by omega) (by rw [t3_7]; rfl) (by decide) ?_
      refine J_aload_n hx dX6_oneOf_133 (i := 0) rfl rfl ?_
      refine J_getR (b := o + 1) hx fl_X6_10 cl_X6 dX6_oneOf_134 hC.o (by decide) rfl hC.r0 ?_
      refine J_iload_n hx dX6_oneOf_137 (i := 1) rfl rfl ?_
      refine J_invV (As := [vI (((pN : Nat) : Int))]) (st := []) hx lk_X6_129 okX5_forceOf dX6_oneOf_138 hC.y0.o (by decide) rfl rfl rfl (Nat.le_of_ble_eq_true rfl) (Nat.zero_add _).symm (Nat.zero_add _).symm rfl (c_X5_forceOf hC.y0 hN.y hW.y (p := pN) (by omega) ?_)
      have rg10 := force_rg hW.y (p := pN) (by omega)
      refine J_iret hx hr dX6_oneOf_141 ?_
      exact hQ.same (v := force S.1 pN) (S := S) (by
        unfold a_oneOf
        all_goals (try unfold overY at *)
        all_goals (try unfold mayQ at *)
        all_goals (try simp only [Int.toNat_natCast] at *)
        all_goals ((repeat' split) <;> first | rfl | (exfalso; omega) | (congr 1; omega) | (congr 1; simp_all))) hC hN
    refine J_tswOut (tgt := 142) hx dX6_oneOf_19 (by omega) (by decide) ?_
    refine J_aload_n hx dX6_oneOf_142 (i := 0) rfl rfl ?_
    refine J_bipush (v := -2) hx dX6_oneOf_143 (by decide) ?_
    refine J_invV (As := [vI ((-2))]) (st := []) hx lk_X6_67 okX6_refuse dX6_oneOf_145 hC.o (by decide) rfl rfl rfl (Nat.le_of_ble_eq_true rfl) (Nat.zero_add _).symm (Nat.zero_add _).symm rfl (c_X6_refuse hC hN hW (k := 0) (by decide) ?_)
    intro M1 hN1 hf1
    refine J_iret hx hr dX6_oneOf_148 ?_
    exact hQ.to (v := -((0 + 2 : Nat) : Int)) (S := rfS S 0) (by
      unfold a_oneOf
      all_goals (try unfold overY at *)
      all_goals (try unfold mayQ at *)
      all_goals (try simp only [Int.toNat_natCast] at *)
      all_goals ((repeat' split) <;> first | rfl | (exfalso; omega) | (congr 1; omega) | (congr 1; simp_all))) hC hN1 hf1
  · refine J_aload_n hx dX6_oneOf_11 (i := 0) rfl rfl ?_
    refine J_bipush (v := -2) hx dX6_oneOf_12 (by decide) ?_
    refine J_invV (As := [vI ((-2))]) (st := []) hx lk_X6_67 okX6_refuse dX6_oneOf_14 hC.o (by decide) rfl rfl rfl (Nat.le_of_ble_eq_true rfl) (Nat.zero_add _).symm (Nat.zero_add _).symm rfl (c_X6_refuse hC hN hW (k := 0) (by decide) ?_)
    intro M1 hN1 hf1
    refine J_iret hx hr dX6_oneOf_17 ?_
    exact hQ.to (v := -((0 + 2 : Nat) : Int)) (S := rfS S 0) (by
      unfold a_oneOf
      all_goals (try unfold overY at *)
      all_goals (try unfold mayQ at *)
      all_goals (try simp only [Int.toNat_natCast] at *)
      all_goals ((repeat' split) <;> first | rfl | (exfalso; omega) | (congr 1; omega) | (congr 1; simp_all))) hC hN1 hf1

set_option maxHeartbeats 4000000 in
theorem c_X6_take {g : WG} {d : Nat} {T : TT} {M : MM} {o sz : Nat} {S : ST} {Q : MVal → TT → MM → Nat → Prop} (hC : CT T o) (hN : CN M o S) (hW : WFS S) {j : Int} (h_j : -2147483648 ≤ j ∧ j ≤ 2147483647) (hQ : CQ o T M sz Q (a_take S j)) : Ct g (d + 3) mX6_take [vR (o), vI (j)] T M sz 0 0 Q := by
  refine Ct_of2 (ls := [vR (o), vI (j)]) okX6_take rfl (Nat.le_of_ble_eq_true rfl) rfl ?_
  intro x hx hr hnm
  have hn8 := hW.y.n8
  have ht2 := hW.y.tn2
  have hl8 := hW.y.len8 ht2
  refine J_aload_n hx dX6_take_0 (i := 0) rfl rfl ?_
  refine J_getR (b := o + 1) hx fl_X6_10 cl_X6 dX6_take_1 hC.o (by decide) rfl hC.r0 ?_
  refine J_aload_n hx dX6_take_4 (i := 0) rfl rfl ?_
  refine J_getR (b := o + 1) hx fl_X6_10 cl_X6 dX6_take_5 hC.o (by decide) rfl hC.r0 ?_
  refine J_getI2 (v := ((S.1.tn : Nat) : Int)) hx fl_X6_169 cl_X5 dX6_take_8 hC.y0.o (by decide) rfl (hN.y.tn hW.y) ?_
  have rg1 := hW.y.tn2
  refine J_iload_n hx dX6_take_11 (i := 1) rfl rfl ?_
  refine J_invV (As := [vI (((S.1.tn : Nat) : Int)), vI (j)]) (st := []) hx lk_X6_205 okX5_hasJoint dX6_take_12 hC.y0.o (by decide) rfl rfl rfl (Nat.le_of_ble_eq_true rfl) (Nat.zero_add _).symm (Nat.zero_add _).symm rfl (c_X5_hasJoint hC.y0 hN.y hW.y (c := S.1.tn) (by omega) (k := j) ?_)
  intro v2 hv2
  refine J_if_ne (tgt := 25) hx dX6_take_15 (by decide) (fun c3 => ?_) (fun c3 => ?_)
  · obtain ⟨jN, rfl⟩ : ∃ z : Nat, j = ((z : Nat) : Int) := ⟨j.toNat, by omega⟩
    refine J_aload_n hx dX6_take_25 (i := 0) rfl rfl ?_
    refine J_getR (b := o + 1) hx fl_X6_10 cl_X6 dX6_take_26 hC.o (by decide) rfl hC.r0 ?_
    refine J_iload_n hx dX6_take_29 (i := 1) rfl rfl ?_
    refine J_invV (As := [vI (((jN : Nat) : Int))]) (st := []) hx lk_X6_235 okX5_sideTaken dX6_take_30 hC.y0.o (by decide) rfl rfl rfl (Nat.le_of_ble_eq_true rfl) (Nat.zero_add _).symm (Nat.zero_add _).symm rfl (c_X5_sideTaken hC.y0 hN.y hW.y (j := jN) (by omega) ?_)
    intro v4 hv4
    refine J_iret hx hr dX6_take_33 ?_
    exact hQ.same (v := v4) (S := S) (by
      unfold a_take
      all_goals (try unfold overY at *)
      all_goals (try unfold mayQ at *)
      all_goals (try simp only [Int.toNat_natCast] at *)
      all_goals ((repeat' split) <;> first | rfl | (exfalso; omega) | (congr 1; omega) | (unfold sidY; congr 1; split <;> omega))) hC hN
  · refine J_aload_n hx dX6_take_18 (i := 0) rfl rfl ?_
    refine J_bipush (v := -2) hx dX6_take_19 (by decide) ?_
    refine J_invV (As := [vI ((-2))]) (st := []) hx lk_X6_67 okX6_refuse dX6_take_21 hC.o (by decide) rfl rfl rfl (Nat.le_of_ble_eq_true rfl) (Nat.zero_add _).symm (Nat.zero_add _).symm rfl (c_X6_refuse hC hN hW (k := 0) (by decide) ?_)
    intro M1 hN1 hf1
    refine J_iret hx hr dX6_take_24 ?_
    exact hQ.to (v := -((0 + 2 : Nat) : Int)) (S := rfS S 0) (by
      unfold a_take
      all_goals (try unfold overY at *)
      all_goals (try unfold mayQ at *)
      all_goals (try simp only [Int.toNat_natCast] at *)
      all_goals ((repeat' split) <;> first | rfl | (exfalso; omega) | (congr 1; omega) | (unfold sidY; congr 1; split <;> omega))) hC hN1 hf1

set_option maxHeartbeats 4000000 in
theorem c_X6_at {g : WG} {d : Nat} {T : TT} {M : MM} {o sz : Nat} {S : ST} {Q : MVal → TT → MM → Nat → Prop} (hC : CT T o) (hN : CN M o S) (hW : WFS S) {p : Int} (h_p : -2147483648 ≤ p ∧ p ≤ 2147483647) (hQ : CQ o T M sz Q (a_at S p)) : Ct g (d + 5) mX6_at [vR (o), vI (p)] T M sz 0 0 Q := by
  refine Ct_of2 (ls := [vR (o), vI (p)]) okX6_at rfl (Nat.le_of_ble_eq_true rfl) rfl ?_
  intro x hx hr hnm
  have hn8 := hW.y.n8
  have ht2 := hW.y.tn2
  have hl8 := hW.y.len8 ht2
  refine J_aload_n hx dX6_at_0 (i := 0) rfl rfl ?_
  refine J_getR (b := o + 1) hx fl_X6_10 cl_X6 dX6_at_1 hC.o (by decide) rfl hC.r0 ?_
  refine J_iload_n hx dX6_at_4 (i := 1) rfl rfl ?_
  refine J_invV (As := [vI (p)]) (st := []) hx lk_X6_111 okX5_has dX6_at_5 hC.y0.o (by decide) rfl rfl rfl (Nat.le_of_ble_eq_true rfl) (Nat.zero_add _).symm (Nat.zero_add _).symm rfl (c_X5_has hC.y0 hN.y hW.y (one := p) ?_)
  intro v1 hv1
  refine J_if_ne (tgt := 18) hx dX6_at_8 (by decide) (fun c2 => ?_) (fun c2 => ?_)
  · obtain ⟨pN, rfl⟩ : ∃ z : Nat, p = ((z : Nat) : Int) := ⟨p.toNat, by omega⟩
    refine J_aload_n hx dX6_at_18 (i := 0) rfl rfl ?_
    refine J_getR (b := o + 1) hx fl_X6_10 cl_X6 dX6_at_19 hC.o (by decide) rfl hC.r0 ?_
    refine J_iload_n hx dX6_at_22 (i := 1) rfl rfl ?_
    refine J_invV (As := [vI (((pN : Nat) : Int))]) (st := []) hx lk_X6_226 okX5_isCalled dX6_at_23 hC.y0.o (by decide) rfl rfl rfl (Nat.le_of_ble_eq_true rfl) (Nat.zero_add _).symm (Nat.zero_add _).symm rfl (c_X5_isCalled hC.y0 hN.y hW.y (p := pN) (by omega) ?_)
    intro v3 hv3
    refine J_if_eq (tgt := 39) hx dX6_at_26 (by decide) (fun c4 => ?_) (fun c4 => ?_)
    · refine J_aload_n hx dX6_at_39 (i := 0) rfl rfl ?_
      refine J_bipush (v := -5) hx dX6_at_40 (by decide) ?_
      refine J_invV (As := [vI ((-5))]) (st := []) hx lk_X6_67 okX6_refuse dX6_at_42 hC.o (by decide) rfl rfl rfl (Nat.le_of_ble_eq_true rfl) (Nat.zero_add _).symm (Nat.zero_add _).symm rfl (c_X6_refuse hC hN hW (k := 3) (by decide) ?_)
      intro M1 hN1 hf1
      refine J_iret hx hr dX6_at_45 ?_
      exact hQ.to (v := -((3 + 2 : Nat) : Int)) (S := rfS S 3) (by
        unfold a_at
        all_goals (try unfold overY at *)
        all_goals (try unfold mayQ at *)
        all_goals (try simp only [Int.toNat_natCast] at *)
        all_goals ((repeat' split) <;> first | rfl | (exfalso; omega) | (congr 1; omega))) hC hN1 hf1
    · refine J_aload_n hx dX6_at_29 (i := 0) rfl rfl ?_
      refine J_getR (b := o + 1) hx fl_X6_10 cl_X6 dX6_at_30 hC.o (by decide) rfl hC.r0 ?_
      refine J_invV (As := []) (st := []) hx lk_X6_229 okX5_isOver dX6_at_33 hC.y0.o (by decide) rfl rfl rfl (Nat.le_of_ble_eq_true rfl) (Nat.zero_add _).symm (Nat.zero_add _).symm rfl (c_X5_isOver hC.y0 hN.y hW.y  ?_)
      intro v5 hv5
      refine J_if_eq (tgt := 46) hx dX6_at_36 (by decide) (fun c6 => ?_) (fun c6 => ?_)
      · have hnv := not_over2 hW.y (fun q9 => by unfold overY at *; omega)
        refine J_aload_n hx dX6_at_46 (i := 0) rfl rfl ?_
        refine J_getR (b := o + 1) hx fl_X6_10 cl_X6 dX6_at_47 hC.o (by decide) rfl hC.r0 ?_
        refine J_iload_n hx dX6_at_50 (i := 1) rfl rfl ?_
        refine J_invV (As := [vI (((pN : Nat) : Int))]) (st := []) hx lk_X6_232 okX5_jointFor dX6_at_51 hC.y0.o (by decide) rfl rfl rfl (Nat.le_of_ble_eq_true rfl) (Nat.zero_add _).symm (Nat.zero_add _).symm rfl (c_X5_jointFor hC.y0 hN.y hW.y (p := pN) (by omega) (by omega) ?_)
        refine J_iret hx hr dX6_at_54 ?_
        exact hQ.same (v := ((atY S.1 pN : Nat) : Int)) (S := S) (by
          unfold a_at
          all_goals (try unfold overY at *)
          all_goals (try unfold mayQ at *)
          all_goals (try simp only [Int.toNat_natCast] at *)
          all_goals ((repeat' split) <;> first | rfl | (exfalso; omega) | (congr 1; omega))) hC hN
      · refine J_aload_n hx dX6_at_39 (i := 0) rfl rfl ?_
        refine J_bipush (v := -5) hx dX6_at_40 (by decide) ?_
        refine J_invV (As := [vI ((-5))]) (st := []) hx lk_X6_67 okX6_refuse dX6_at_42 hC.o (by decide) rfl rfl rfl (Nat.le_of_ble_eq_true rfl) (Nat.zero_add _).symm (Nat.zero_add _).symm rfl (c_X6_refuse hC hN hW (k := 3) (by decide) ?_)
        intro M1 hN1 hf1
        refine J_iret hx hr dX6_at_45 ?_
        exact hQ.to (v := -((3 + 2 : Nat) : Int)) (S := rfS S 3) (by
          unfold a_at
          all_goals (try unfold overY at *)
          all_goals (try unfold mayQ at *)
          all_goals (try simp only [Int.toNat_natCast] at *)
          all_goals ((repeat' split) <;> first | rfl | (exfalso; omega) | (congr 1; omega))) hC hN1 hf1
  · refine J_aload_n hx dX6_at_11 (i := 0) rfl rfl ?_
    refine J_bipush (v := -2) hx dX6_at_12 (by decide) ?_
    refine J_invV (As := [vI ((-2))]) (st := []) hx lk_X6_67 okX6_refuse dX6_at_14 hC.o (by decide) rfl rfl rfl (Nat.le_of_ble_eq_true rfl) (Nat.zero_add _).symm (Nat.zero_add _).symm rfl (c_X6_refuse hC hN hW (k := 0) (by decide) ?_)
    intro M1 hN1 hf1
    refine J_iret hx hr dX6_at_17 ?_
    exact hQ.to (v := -((0 + 2 : Nat) : Int)) (S := rfS S 0) (by
      unfold a_at
      all_goals (try unfold overY at *)
      all_goals (try unfold mayQ at *)
      all_goals (try simp only [Int.toNat_natCast] at *)
      all_goals ((repeat' split) <;> first | rfl | (exfalso; omega) | (congr 1; omega))) hC hN1 hf1

set_option maxHeartbeats 4000000 in
theorem c_X6_call {g : WG} {d : Nat} {T : TT} {M : MM} {o sz : Nat} {S : ST} {Q : MVal → TT → MM → Nat → Prop} (hC : CT T o) (hN : CN M o S) (hW : WFS S)  (hQ : CQ o T M sz Q (a_call S)) : Ct g (d + 5) mX6_call [vR (o)] T M sz 0 0 Q := by
  refine Ct_of2 (ls := [vR (o)]) okX6_call rfl (Nat.le_of_ble_eq_true rfl) rfl ?_
  intro x hx hr hnm
  have hn8 := hW.y.n8
  have ht2 := hW.y.tn2
  have hl8 := hW.y.len8 ht2
  refine J_aload_n hx dX6_call_0 (i := 0) rfl rfl ?_
  refine J_getR (b := o + 1) hx fl_X6_10 cl_X6 dX6_call_1 hC.o (by decide) rfl hC.r0 ?_
  refine J_invV (As := []) (st := []) hx lk_X6_229 okX5_isOver dX6_call_4 hC.y0.o (by decide) rfl rfl rfl (Nat.le_of_ble_eq_true rfl) (Nat.zero_add _).symm (Nat.zero_add _).symm rfl (c_X5_isOver hC.y0 hN.y hW.y  ?_)
  intro v1 hv1
  refine J_if_eq (tgt := 19) hx dX6_call_7 (by decide) (fun c2 => ?_) (fun c2 => ?_)
  · refine J_aload_n hx dX6_call_19 (i := 0) rfl rfl ?_
    refine J_getR (b := o + 1) hx fl_X6_10 cl_X6 dX6_call_20 hC.o (by decide) rfl hC.r0 ?_
    refine J_iconst (v := 0) hx dX6_call_23 (by decide) ?_
    refine J_invV (As := [vI (0)]) (st := []) hx lk_X6_238 okX5_whoIsCalled dX6_call_24 hC.y0.o (by decide) rfl rfl rfl (Nat.le_of_ble_eq_true rfl) (Nat.zero_add _).symm (Nat.zero_add _).symm rfl (c_X5_whoIsCalled hC.y0 hN.y hW.y (rule := 0) ?_)
    refine J_iret hx hr dX6_call_27 ?_
    exact hQ.same (v := whoY S.1 0) (S := S) (by
      unfold a_call
      all_goals (try unfold overY at *)
      all_goals (try unfold mayQ at *)
      all_goals (try simp only [Int.toNat_natCast] at *)
      all_goals ((repeat' split) <;> first | rfl | (exfalso; omega) | (congr 1; omega))) hC hN
  · refine J_aload_n hx dX6_call_10 (i := 0) rfl rfl ?_
    refine J_bipush (v := -5) hx dX6_call_11 (by decide) ?_
    refine J_invV (As := [vI ((-5))]) (st := []) hx lk_X6_67 okX6_refuse dX6_call_13 hC.o (by decide) rfl rfl rfl (Nat.le_of_ble_eq_true rfl) (Nat.zero_add _).symm (Nat.zero_add _).symm rfl (c_X6_refuse hC hN hW (k := 3) (by decide) ?_)
    intro M1 hN1 hf1
    refine J_goto (tgt := 27) hx dX6_call_16 (by decide) ?_
    refine J_iret hx hr dX6_call_27 ?_
    exact hQ.to (v := -((3 + 2 : Nat) : Int)) (S := rfS S 3) (by
      unfold a_call
      all_goals (try unfold overY at *)
      all_goals (try unfold mayQ at *)
      all_goals (try simp only [Int.toNat_natCast] at *)
      all_goals ((repeat' split) <;> first | rfl | (exfalso; omega) | (congr 1; omega))) hC hN1 hf1

set_option maxHeartbeats 4000000 in
theorem c_X6_won {g : WG} {d : Nat} {T : TT} {M : MM} {o sz : Nat} {S : ST} {Q : MVal → TT → MM → Nat → Prop} (hC : CT T o) (hN : CN M o S) (hW : WFS S)  (hQ : CQ o T M sz Q (a_won S)) : Ct g (d + 3) mX6_won [vR (o)] T M sz 0 0 Q := by
  refine Ct_of2 (ls := [vR (o)]) okX6_won rfl (Nat.le_of_ble_eq_true rfl) rfl ?_
  intro x hx hr hnm
  have hn8 := hW.y.n8
  have ht2 := hW.y.tn2
  have hl8 := hW.y.len8 ht2
  refine J_aload_n hx dX6_won_0 (i := 0) rfl rfl ?_
  refine J_getR (b := o + 1) hx fl_X6_10 cl_X6 dX6_won_1 hC.o (by decide) rfl hC.r0 ?_
  refine J_invV (As := []) (st := []) hx lk_X6_241 okX5_winner dX6_won_4 hC.y0.o (by decide) rfl rfl rfl (Nat.le_of_ble_eq_true rfl) (Nat.zero_add _).symm (Nat.zero_add _).symm rfl (c_X5_winner hC.y0 hN.y hW.y  ?_)
  intro v1 hv1
  refine J_iret hx hr dX6_won_7 ?_
  exact hQ.same (v := v1) (S := S) (by
    unfold a_won
    all_goals (try unfold overY at *)
    all_goals (try unfold mayQ at *)
    all_goals (try simp only [Int.toNat_natCast] at *)
    all_goals ((repeat' split) <;> first | rfl | (exfalso; omega) | (congr 1; omega))) hC hN

set_option maxHeartbeats 4000000 in
theorem c_X6_over {g : WG} {d : Nat} {T : TT} {M : MM} {o sz : Nat} {S : ST} {Q : MVal → TT → MM → Nat → Prop} (hC : CT T o) (hN : CN M o S) (hW : WFS S)  (hQ : CQ o T M sz Q (a_over S)) : Ct g (d + 2) mX6_over [vR (o)] T M sz 0 0 Q := by
  refine Ct_of2 (ls := [vR (o)]) okX6_over rfl (Nat.le_of_ble_eq_true rfl) rfl ?_
  intro x hx hr hnm
  have hn8 := hW.y.n8
  have ht2 := hW.y.tn2
  have hl8 := hW.y.len8 ht2
  refine J_aload_n hx dX6_over_0 (i := 0) rfl rfl ?_
  refine J_getR (b := o + 1) hx fl_X6_10 cl_X6 dX6_over_1 hC.o (by decide) rfl hC.r0 ?_
  refine J_invV (As := []) (st := []) hx lk_X6_229 okX5_isOver dX6_over_4 hC.y0.o (by decide) rfl rfl rfl (Nat.le_of_ble_eq_true rfl) (Nat.zero_add _).symm (Nat.zero_add _).symm rfl (c_X5_isOver hC.y0 hN.y hW.y  ?_)
  intro v1 hv1
  refine J_if_eq (tgt := 14) hx dX6_over_7 (by decide) (fun c2 => ?_) (fun c2 => ?_)
  · refine J_iconst (v := 0) hx dX6_over_14 (by decide) ?_
    refine J_iret hx hr dX6_over_15 ?_
    exact hQ.same (v := 0) (S := S) (by
      unfold a_over
      all_goals (try unfold overY at *)
      all_goals (try unfold mayQ at *)
      all_goals (try simp only [Int.toNat_natCast] at *)
      all_goals ((repeat' split) <;> first | rfl | (exfalso; omega) | (congr 1; omega))) hC hN
  · refine J_iconst (v := 1) hx dX6_over_10 (by decide) ?_
    refine J_goto (tgt := 15) hx dX6_over_11 (by decide) ?_
    refine J_iret hx hr dX6_over_15 ?_
    exact hQ.same (v := 1) (S := S) (by
      unfold a_over
      all_goals (try unfold overY at *)
      all_goals (try unfold mayQ at *)
      all_goals (try simp only [Int.toNat_natCast] at *)
      all_goals ((repeat' split) <;> first | rfl | (exfalso; omega) | (congr 1; omega))) hC hN

set_option maxHeartbeats 4000000 in
theorem c_X6_pair {g : WG} {d : Nat} {T : TT} {M : MM} {o sz : Nat} {S : ST} {Q : MVal → TT → MM → Nat → Prop} (hC : CT T o) (hN : CN M o S) (hW : WFS S)  (hQ : CQ o T M sz Q (a_pair S)) : Ct g (d + 3) mX6_pair [vR (o)] T M sz 0 0 Q := by
  refine Ct_of2 (ls := [vR (o)]) okX6_pair rfl (Nat.le_of_ble_eq_true rfl) rfl ?_
  intro x hx hr hnm
  have hn8 := hW.y.n8
  have ht2 := hW.y.tn2
  have hl8 := hW.y.len8 ht2
  refine J_aload_n hx dX6_pair_0 (i := 0) rfl rfl ?_
  refine J_getR (b := o + 1) hx fl_X6_10 cl_X6 dX6_pair_1 hC.o (by decide) rfl hC.r0 ?_
  refine J_getI2 (v := ((S.1.n : Nat) : Int)) hx fl_X6_138 cl_X5 dX6_pair_4 hC.y0.o (by decide) rfl hN.y.pp ?_
  have rg1 := hW.y.n8
  refine J_iconst (v := 2) hx dX6_pair_7 (by decide) ?_
  refine J_icmp_ge (tgt := 20) hx dX6_pair_8 (by decide) (fun c2 => ?_) (fun c2 => ?_)
  · refine J_aload_n hx dX6_pair_20 (i := 0) rfl rfl ?_
    refine J_getR (b := o + 1) hx fl_X6_10 cl_X6 dX6_pair_21 hC.o (by decide) rfl hC.r0 ?_
    refine J_invV (As := []) (st := []) hx lk_X6_272 okX5_firmestPair dX6_pair_24 hC.y0.o (by decide) rfl rfl rfl (Nat.le_of_ble_eq_true rfl) (Nat.zero_add _).symm (Nat.zero_add _).symm rfl (c_X5_firmestPair hC.y0 hN.y hW.y  ?_)
    refine J_iret hx hr dX6_pair_27 ?_
    exact hQ.same (v := (prI S.1 S.1.n).1) (S := S) (by
      unfold a_pair
      all_goals (try unfold overY at *)
      all_goals (try unfold mayQ at *)
      all_goals (try simp only [Int.toNat_natCast] at *)
      all_goals ((repeat' split) <;> first | rfl | (exfalso; omega) | (congr 1; omega))) hC hN
  · refine J_aload_n hx dX6_pair_11 (i := 0) rfl rfl ?_
    refine J_bipush (v := -5) hx dX6_pair_12 (by decide) ?_
    refine J_invV (As := [vI ((-5))]) (st := []) hx lk_X6_67 okX6_refuse dX6_pair_14 hC.o (by decide) rfl rfl rfl (Nat.le_of_ble_eq_true rfl) (Nat.zero_add _).symm (Nat.zero_add _).symm rfl (c_X6_refuse hC hN hW (k := 3) (by decide) ?_)
    intro M1 hN1 hf1
    refine J_goto (tgt := 27) hx dX6_pair_17 (by decide) ?_
    refine J_iret hx hr dX6_pair_27 ?_
    exact hQ.to (v := -((3 + 2 : Nat) : Int)) (S := rfS S 3) (by
      unfold a_pair
      all_goals (try unfold overY at *)
      all_goals (try unfold mayQ at *)
      all_goals (try simp only [Int.toNat_natCast] at *)
      all_goals ((repeat' split) <;> first | rfl | (exfalso; omega) | (congr 1; omega))) hC hN1 hf1

set_option maxHeartbeats 4000000 in
theorem c_X6_tiredest {g : WG} {d : Nat} {T : TT} {M : MM} {o sz : Nat} {S : ST} {Q : MVal → TT → MM → Nat → Prop} (hC : CT T o) (hN : CN M o S) (hW : WFS S)  (hQ : CQ o T M sz Q (a_tiredest S)) : Ct g (d + 2) mX6_tiredest [vR (o)] T M sz 0 0 Q := by
  refine Ct_of2 (ls := [vR (o)]) okX6_tiredest rfl (Nat.le_of_ble_eq_true rfl) rfl ?_
  intro x hx hr hnm
  have hn8 := hW.y.n8
  have ht2 := hW.y.tn2
  have hl8 := hW.y.len8 ht2
  refine J_aload_n hx dX6_tiredest_0 (i := 0) rfl rfl ?_
  refine J_getR (b := o + 1) hx fl_X6_10 cl_X6 dX6_tiredest_1 hC.o (by decide) rfl hC.r0 ?_
  refine J_getI2 (v := ((S.1.n : Nat) : Int)) hx fl_X6_138 cl_X5 dX6_tiredest_4 hC.y0.o (by decide) rfl hN.y.pp ?_
  have rg1 := hW.y.n8
  refine J_iconst (v := 1) hx dX6_tiredest_7 (by decide) ?_
  refine J_icmp_ge (tgt := 20) hx dX6_tiredest_8 (by decide) (fun c2 => ?_) (fun c2 => ?_)
  · refine J_aload_n hx dX6_tiredest_20 (i := 0) rfl rfl ?_
    refine J_getR (b := o + 1) hx fl_X6_10 cl_X6 dX6_tiredest_21 hC.o (by decide) rfl hC.r0 ?_
    refine J_invV (As := []) (st := []) hx lk_X6_275 okX5_mostTired dX6_tiredest_24 hC.y0.o (by decide) rfl rfl rfl (Nat.le_of_ble_eq_true rfl) (Nat.zero_add _).symm (Nat.zero_add _).symm rfl (c_X5_mostTired hC.y0 hN.y hW.y (by omega) ?_)
    refine J_iret hx hr dX6_tiredest_27 ?_
    exact hQ.same (v := ((tirY S.1 : Nat) : Int)) (S := S) (by
      unfold a_tiredest
      all_goals (try unfold overY at *)
      all_goals (try unfold mayQ at *)
      all_goals (try simp only [Int.toNat_natCast] at *)
      all_goals ((repeat' split) <;> first | rfl | (exfalso; omega) | (congr 1; omega))) hC hN
  · refine J_aload_n hx dX6_tiredest_11 (i := 0) rfl rfl ?_
    refine J_bipush (v := -5) hx dX6_tiredest_12 (by decide) ?_
    refine J_invV (As := [vI ((-5))]) (st := []) hx lk_X6_67 okX6_refuse dX6_tiredest_14 hC.o (by decide) rfl rfl rfl (Nat.le_of_ble_eq_true rfl) (Nat.zero_add _).symm (Nat.zero_add _).symm rfl (c_X6_refuse hC hN hW (k := 3) (by decide) ?_)
    intro M1 hN1 hf1
    refine J_goto (tgt := 27) hx dX6_tiredest_17 (by decide) ?_
    refine J_iret hx hr dX6_tiredest_27 ?_
    exact hQ.to (v := -((3 + 2 : Nat) : Int)) (S := rfS S 3) (by
      unfold a_tiredest
      all_goals (try unfold overY at *)
      all_goals (try unfold mayQ at *)
      all_goals (try simp only [Int.toNat_natCast] at *)
      all_goals ((repeat' split) <;> first | rfl | (exfalso; omega) | (congr 1; omega))) hC hN1 hf1

set_option maxHeartbeats 4000000 in
theorem c_X6_faultOfRunner {g : WG} {d : Nat} {T : TT} {M : MM} {o sz : Nat} {S : ST} {Q : MVal → TT → MM → Nat → Prop} (hC : CT T o) (hN : CN M o S) (hW : WFS S) {p j : Int} (hQ : ∀ v : Int, ((v = -2 ∧ ¬ (0 ≤ p ∧ p < S.1.n ∧ 0 ≤ j ∧ j + 1 < (S.1.ch S.1.tn).length)) ∨ (v = 0 ∧ (0 ≤ p ∧ p < S.1.n ∧ 0 ≤ j ∧ j + 1 < (S.1.ch S.1.tn).length) ∧ S.1.co p.toNat ≠ S.1.tn) ∨ (v = -5 ∧ (0 ≤ p ∧ p < S.1.n ∧ 0 ≤ j ∧ j + 1 < (S.1.ch S.1.tn).length) ∧ S.1.co p.toNat = S.1.tn)) → Q (vI v) T M sz) : Ct g (d + 2) mX6_faultOfRunner [vR (o), vI (p), vI (j)] T M sz 0 0 Q := by
  refine Ct_of2 (ls := [vR (o), vI (p), vI (j)]) okX6_faultOfRunner rfl (Nat.le_of_ble_eq_true rfl) rfl ?_
  intro x hx hr hnm
  have hn8 := hW.y.n8
  have ht2 := hW.y.tn2
  refine J_aload_n hx dX6_faultOfRunner_0 (i := 0) rfl rfl ?_
  refine J_getR (b := o + 1) hx fl_X6_10 cl_X6 dX6_faultOfRunner_1 hC.o (by decide) rfl hC.r0 ?_
  refine J_iload_n hx dX6_faultOfRunner_4 (i := 1) rfl rfl ?_
  refine J_invV (As := [vI (p)]) (st := []) hx lk_X6_111 okX5_has dX6_faultOfRunner_5 hC.y0.o (by decide) rfl rfl rfl (Nat.le_of_ble_eq_true rfl) (Nat.zero_add _).symm (Nat.zero_add _).symm rfl (c_X5_has hC.y0 hN.y hW.y (one := p) ?_)
  intro v1 hv1
  refine J_if_eq (tgt := 29) hx dX6_faultOfRunner_8 (by decide) (fun c2 => ?_) (fun c2 => ?_)
  · refine J_bipush (v := -2) hx dX6_faultOfRunner_29 (by decide) ?_
    refine J_iret hx hr dX6_faultOfRunner_31 ?_
    exact hQ _ (Or.inl ⟨rfl, by omega⟩)
  · refine J_aload_n hx dX6_faultOfRunner_11 (i := 0) rfl rfl ?_
    refine J_getR (b := o + 1) hx fl_X6_10 cl_X6 dX6_faultOfRunner_12 hC.o (by decide) rfl hC.r0 ?_
    refine J_aload_n hx dX6_faultOfRunner_15 (i := 0) rfl rfl ?_
    refine J_getR (b := o + 1) hx fl_X6_10 cl_X6 dX6_faultOfRunner_16 hC.o (by decide) rfl hC.r0 ?_
    refine J_getI2 (v := ((S.1.tn : Nat) : Int)) hx fl_X6_169 cl_X5 dX6_faultOfRunner_19 hC.y0.o (by decide) rfl (hN.y.tn hW.y) ?_
    have rg3 := hW.y.tn2
    refine J_iload_n hx dX6_faultOfRunner_22 (i := 2) rfl rfl ?_
    refine J_invV (As := [vI (((S.1.tn : Nat) : Int)), vI (j)]) (st := []) hx lk_X6_205 okX5_hasJoint dX6_faultOfRunner_23 hC.y0.o (by decide) rfl rfl rfl (Nat.le_of_ble_eq_true rfl) (Nat.zero_add _).symm (Nat.zero_add _).symm rfl (c_X5_hasJoint hC.y0 hN.y hW.y (c := S.1.tn) (by omega) (k := j) ?_)
    intro v4 hv4
    refine J_if_ne (tgt := 32) hx dX6_faultOfRunner_26 (by decide) (fun c5 => ?_) (fun c5 => ?_)
    · obtain ⟨pN, rfl⟩ : ∃ z : Nat, p = ((z : Nat) : Int) := ⟨p.toNat, by omega⟩
      refine J_aload_n hx dX6_faultOfRunner_32 (i := 0) rfl rfl ?_
      refine J_getR (b := o + 1) hx fl_X6_10 cl_X6 dX6_faultOfRunner_33 hC.o (by decide) rfl hC.r0 ?_
      refine J_iload_n hx dX6_faultOfRunner_36 (i := 1) rfl rfl ?_
      refine J_invV (As := [vI (((pN : Nat) : Int))]) (st := []) hx lk_X6_226 okX5_isCalled dX6_faultOfRunner_37 hC.y0.o (by decide) rfl rfl rfl (Nat.le_of_ble_eq_true rfl) (Nat.zero_add _).symm (Nat.zero_add _).symm rfl (c_X5_isCalled hC.y0 hN.y hW.y (p := pN) (by omega) ?_)
      intro v6 hv6
      refine J_if_eq (tgt := 47) hx dX6_faultOfRunner_40 (by decide) (fun c7 => ?_) (fun c7 => ?_)
      · refine J_bipush (v := -5) hx dX6_faultOfRunner_47 (by decide) ?_
        refine J_iret hx hr dX6_faultOfRunner_49 ?_
        exact hQ _ (Or.inr (Or.inr ⟨rfl, ⟨by omega, by omega, by omega, by omega⟩, by rw [Int.toNat_natCast]; omega⟩))
      · refine J_iconst (v := 0) hx dX6_faultOfRunner_43 (by decide) ?_
        refine J_goto (tgt := 49) hx dX6_faultOfRunner_44 (by decide) ?_
        refine J_iret hx hr dX6_faultOfRunner_49 ?_
        exact hQ _ (Or.inr (Or.inl ⟨rfl, ⟨by omega, by omega, by omega, by omega⟩, by rw [Int.toNat_natCast]; omega⟩))
    · refine J_bipush (v := -2) hx dX6_faultOfRunner_29 (by decide) ?_
      refine J_iret hx hr dX6_faultOfRunner_31 ?_
      exact hQ _ (Or.inl ⟨rfl, by omega⟩)

set_option maxHeartbeats 4000000 in
theorem c_X6_odds {g : WG} {d : Nat} {T : TT} {M : MM} {o sz : Nat} {S : ST} {Q : MVal → TT → MM → Nat → Prop} (hC : CT T o) (hN : CN M o S) (hW : WFS S) {p j : Int} (h_p : -2147483648 ≤ p ∧ p ≤ 2147483647) (h_j : -2147483648 ≤ j ∧ j ≤ 2147483647) (hQ : CQ o T M sz Q (a_odds S p j)) : Ct g (d + 4) mX6_odds [vR (o), vI (p), vI (j)] T M sz 0 0 Q := by
  refine Ct_of2 (ls := [vR (o), vI (p), vI (j), vU]) okX6_odds rfl (Nat.le_of_ble_eq_true rfl) rfl ?_
  intro x hx hr hnm
  have hn8 := hW.y.n8
  have ht2 := hW.y.tn2
  have hl8 := hW.y.len8 ht2
  refine J_aload_n hx dX6_odds_0 (i := 0) rfl rfl ?_
  refine J_iload_n hx dX6_odds_1 (i := 1) rfl rfl ?_
  refine J_iload_n hx dX6_odds_2 (i := 2) rfl rfl ?_
  refine J_invV (As := [vI (p), vI (j)]) (st := []) hx lk_X6_220 okX6_faultOfRunner dX6_odds_3 hC.o (by decide) rfl rfl rfl (Nat.le_of_ble_eq_true rfl) (Nat.zero_add _).symm (Nat.zero_add _).symm rfl (c_X6_faultOfRunner hC hN hW (p := p) (j := j) ?_)
  rintro vf (⟨rfl, hvf⟩ | ⟨rfl, hvf⟩ | ⟨rfl, hvf⟩)
  · refine J_istore_n (lsn := [vR (o), vI (p), vI (j), vI ((-2))]) hx dX6_odds_6 (i := 3) rfl (Nat.le_of_ble_eq_true rfl) rfl rfl ?_
    refine J_iload_n hx dX6_odds_7 (i := 3) rfl rfl ?_
    refine J_if_eq (tgt := 19) hx dX6_odds_8 (by decide) (fun c9 => absurd c9 (by decide)) (fun _ => ?_)
    refine J_aload_n hx dX6_odds_11 (i := 0) rfl rfl ?_
    refine J_iload_n hx dX6_odds_12 (i := 3) rfl rfl ?_
    refine J_invV (As := [vI ((-2))]) (st := []) hx lk_X6_67 okX6_refuse dX6_odds_13 hC.o (by decide) rfl rfl rfl (Nat.le_of_ble_eq_true rfl) (Nat.zero_add _).symm (Nat.zero_add _).symm rfl (c_X6_refuse hC hN hW (k := 0) (by decide) ?_)
    intro M1 hN1 hf1
    refine J_goto (tgt := 28) hx dX6_odds_16 (by decide) ?_
    refine J_iret hx hr dX6_odds_28 ?_
    exact hQ.to (v := -((0 + 2 : Nat) : Int)) (S := rfS S 0) (by
      unfold a_odds
      all_goals (try unfold overY at *)
      all_goals (try unfold mayQ at *)
      all_goals (try simp only [Int.toNat_natCast] at *)
      all_goals ((repeat' split) <;> first | rfl | (exfalso; omega) | (congr 1; omega))) hC hN1 hf1
  · refine J_istore_n (lsn := [vR (o), vI (p), vI (j), vI (0)]) hx dX6_odds_6 (i := 3) rfl (Nat.le_of_ble_eq_true rfl) rfl rfl ?_
    refine J_iload_n hx dX6_odds_7 (i := 3) rfl rfl ?_
    refine J_if_eq (tgt := 19) hx dX6_odds_8 (by decide) (fun _ => ?_) (fun c9 => absurd c9 (by decide))
    obtain ⟨pN, rfl⟩ : ∃ z : Nat, p = ((z : Nat) : Int) := ⟨p.toNat, by omega⟩
    obtain ⟨jN, rfl⟩ : ∃ z : Nat, j = ((z : Nat) : Int) := ⟨j.toNat, by omega⟩
    refine J_aload_n hx dX6_odds_19 (i := 0) rfl rfl ?_
    refine J_getR (b := o + 1) hx fl_X6_10 cl_X6 dX6_odds_20 hC.o (by decide) rfl hC.r0 ?_
    refine J_iload_n hx dX6_odds_23 (i := 1) rfl rfl ?_
    refine J_iload_n hx dX6_odds_24 (i := 2) rfl rfl ?_
    refine J_invV (As := [vI (((pN : Nat) : Int)), vI (((jN : Nat) : Int))]) (st := []) hx lk_X6_223 okX5_oddsOf dX6_odds_25 hC.y0.o (by decide) rfl rfl rfl (Nat.le_of_ble_eq_true rfl) (Nat.zero_add _).symm (Nat.zero_add _).symm rfl (c_X5_oddsOf hC.y0 hN.y hW.y (p := pN) (by omega) (j := jN) (by omega) ?_)
    have rg3 : 0 ≤ oddsY S.1 pN jN ∧ oddsY S.1 pN jN ≤ 1000000 := oddsB_rg hW.y _ _
    refine J_iret hx hr dX6_odds_28 ?_
    exact hQ.same (v := oddsY S.1 pN jN) (S := S) (by
      unfold a_odds
      all_goals (try unfold overY at *)
      all_goals (try unfold mayQ at *)
      all_goals (try simp only [Int.toNat_natCast] at *)
      all_goals ((repeat' split) <;> first | rfl | (exfalso; omega) | (congr 1; omega))) hC hN
  · refine J_istore_n (lsn := [vR (o), vI (p), vI (j), vI ((-5))]) hx dX6_odds_6 (i := 3) rfl (Nat.le_of_ble_eq_true rfl) rfl rfl ?_
    refine J_iload_n hx dX6_odds_7 (i := 3) rfl rfl ?_
    refine J_if_eq (tgt := 19) hx dX6_odds_8 (by decide) (fun c9 => absurd c9 (by decide)) (fun _ => ?_)
    refine J_aload_n hx dX6_odds_11 (i := 0) rfl rfl ?_
    refine J_iload_n hx dX6_odds_12 (i := 3) rfl rfl ?_
    refine J_invV (As := [vI ((-5))]) (st := []) hx lk_X6_67 okX6_refuse dX6_odds_13 hC.o (by decide) rfl rfl rfl (Nat.le_of_ble_eq_true rfl) (Nat.zero_add _).symm (Nat.zero_add _).symm rfl (c_X6_refuse hC hN hW (k := 3) (by decide) ?_)
    intro M1 hN1 hf1
    refine J_goto (tgt := 28) hx dX6_odds_16 (by decide) ?_
    refine J_iret hx hr dX6_odds_28 ?_
    exact hQ.to (v := -((3 + 2 : Nat) : Int)) (S := rfS S 3) (by
      unfold a_odds
      all_goals (try unfold overY at *)
      all_goals (try unfold mayQ at *)
      all_goals (try simp only [Int.toNat_natCast] at *)
      all_goals ((repeat' split) <;> first | rfl | (exfalso; omega) | (congr 1; omega))) hC hN1 hf1

set_option maxHeartbeats 4000000 in
theorem c_X6_spreadFor {g : WG} {d : Nat} {T : TT} {M : MM} {o sz : Nat} {S : ST} {Q : MVal → TT → MM → Nat → Prop} (hC : CT T o) (hN : CN M o S) (hW : WFS S) {p j : Int} (h_p : -2147483648 ≤ p ∧ p ≤ 2147483647) (h_j : -2147483648 ≤ j ∧ j ≤ 2147483647) (hQ : CQ o T M sz Q (a_spreadFor S p j)) : Ct g (d + 4) mX6_spreadFor [vR (o), vI (p), vI (j)] T M sz 0 0 Q := by
  refine Ct_of2 (ls := [vR (o), vI (p), vI (j), vU, vU]) okX6_spreadFor rfl (Nat.le_of_ble_eq_true rfl) rfl ?_
  intro x hx hr hnm
  have hn8 := hW.y.n8
  have ht2 := hW.y.tn2
  have hl8 := hW.y.len8 ht2
  refine J_aload_n hx dX6_spreadFor_0 (i := 0) rfl rfl ?_
  refine J_iload_n hx dX6_spreadFor_1 (i := 1) rfl rfl ?_
  refine J_iload_n hx dX6_spreadFor_2 (i := 2) rfl rfl ?_
  refine J_invV (As := [vI (p), vI (j)]) (st := []) hx lk_X6_220 okX6_faultOfRunner dX6_spreadFor_3 hC.o (by decide) rfl rfl rfl (Nat.le_of_ble_eq_true rfl) (Nat.zero_add _).symm (Nat.zero_add _).symm rfl (c_X6_faultOfRunner hC hN hW (p := p) (j := j) ?_)
  rintro vf (⟨rfl, hvf⟩ | ⟨rfl, hvf⟩ | ⟨rfl, hvf⟩)
  · refine J_istore_n (lsn := [vR (o), vI (p), vI (j), vI ((-2)), vU]) hx dX6_spreadFor_6 (i := 3) rfl (Nat.le_of_ble_eq_true rfl) rfl rfl ?_
    refine J_iload_n hx dX6_spreadFor_7 (i := 3) rfl rfl ?_
    refine J_if_eq (tgt := 17) hx dX6_spreadFor_8 (by decide) (fun c9 => absurd c9 (by decide)) (fun _ => ?_)
    refine J_aload_n hx dX6_spreadFor_11 (i := 0) rfl rfl ?_
    refine J_iload_n hx dX6_spreadFor_12 (i := 3) rfl rfl ?_
    refine J_invV (As := [vI ((-2))]) (st := []) hx lk_X6_67 okX6_refuse dX6_spreadFor_13 hC.o (by decide) rfl rfl rfl (Nat.le_of_ble_eq_true rfl) (Nat.zero_add _).symm (Nat.zero_add _).symm rfl (c_X6_refuse hC hN hW (k := 0) (by decide) ?_)
    intro M1 hN1 hf1
    refine J_iret hx hr dX6_spreadFor_16 ?_
    exact hQ.to (v := -((0 + 2 : Nat) : Int)) (S := rfS S 0) (by
      unfold a_spreadFor
      all_goals (try unfold overY at *)
      all_goals (try unfold mayQ at *)
      all_goals (try simp only [Int.toNat_natCast] at *)
      all_goals ((repeat' split) <;> first | rfl | (exfalso; omega) | (congr 1; omega))) hC hN1 hf1
  · refine J_istore_n (lsn := [vR (o), vI (p), vI (j), vI (0), vU]) hx dX6_spreadFor_6 (i := 3) rfl (Nat.le_of_ble_eq_true rfl) rfl rfl ?_
    refine J_iload_n hx dX6_spreadFor_7 (i := 3) rfl rfl ?_
    refine J_if_eq (tgt := 17) hx dX6_spreadFor_8 (by decide) (fun _ => ?_) (fun c9 => absurd c9 (by decide))
    obtain ⟨pN, rfl⟩ : ∃ z : Nat, p = ((z : Nat) : Int) := ⟨p.toNat, by omega⟩
    obtain ⟨jN, rfl⟩ : ∃ z : Nat, j = ((z : Nat) : Int) := ⟨j.toNat, by omega⟩
    refine J_iconst (v := 1) hx dX6_spreadFor_17 (by decide) ?_
    refine J_aload_n hx dX6_spreadFor_18 (i := 0) rfl rfl ?_
    refine J_getR (b := o + 1) hx fl_X6_10 cl_X6 dX6_spreadFor_19 hC.o (by decide) rfl hC.r0 ?_
    refine J_aload_n hx dX6_spreadFor_22 (i := 0) rfl rfl ?_
    refine J_getR (b := o + 1) hx fl_X6_10 cl_X6 dX6_spreadFor_23 hC.o (by decide) rfl hC.r0 ?_
    refine J_getI2 (v := ((S.1.tn : Nat) : Int)) hx fl_X6_169 cl_X5 dX6_spreadFor_26 hC.y0.o (by decide) rfl (hN.y.tn hW.y) ?_
    have rg3 := hW.y.tn2
    refine J_iload_n hx dX6_spreadFor_29 (i := 2) rfl rfl ?_
    refine J_invV (As := [vI (((S.1.tn : Nat) : Int)), vI (((jN : Nat) : Int))]) (st := [vI (1)]) hx lk_X6_208 okX5_strengthAt dX6_spreadFor_30 hC.y0.o (by decide) rfl rfl rfl (Nat.le_of_ble_eq_true rfl) (Nat.zero_add _).symm (Nat.zero_add _).symm rfl (c_X5_strengthAt hC.y0 hN.y hW.y (c := S.1.tn) (by omega) (j := jN) (by omega) ?_)
    have rg4 := strl_rg hW.y (l := S.1.ch S.1.tn) (fun p hp => hW.y.lt (by omega) hp) (j := jN) (by omega)
    refine J_aload_n hx dX6_spreadFor_33 (i := 0) rfl rfl ?_
    refine J_getR (b := o + 1) hx fl_X6_10 cl_X6 dX6_spreadFor_34 hC.o (by decide) rfl hC.r0 ?_
    refine J_iload_n hx dX6_spreadFor_37 (i := 1) rfl rfl ?_
    refine J_invV (As := [vI (((pN : Nat) : Int))]) (st := [vI (strl S.1 (S.1.ch S.1.tn) jN), vI (1)]) hx lk_X6_129 okX5_forceOf dX6_spreadFor_38 hC.y0.o (by decide) rfl rfl rfl (Nat.le_of_ble_eq_true rfl) (Nat.zero_add _).symm (Nat.zero_add _).symm rfl (c_X5_forceOf hC.y0 hN.y hW.y (p := pN) (by omega) ?_)
    have rg5 := force_rg hW.y (p := pN) (by omega)
    refine J_isub (v := strl S.1 (S.1.ch S.1.tn) jN - (force S.1 pN)) hx dX6_spreadFor_41 (w32_id (by omega) (by omega)) ?_
    refine J_iconst (v := 2) hx dX6_spreadFor_42 (by decide) ?_
    refine J_iadd (v := strl S.1 (S.1.ch S.1.tn) jN - (force S.1 pN) + 2) hx dX6_spreadFor_43 (w32_id (by omega) (by omega)) ?_
    refine J_mmax (v := if 1 < strl S.1 (S.1.ch S.1.tn) jN - (force S.1 pN) + 2 then strl S.1 (S.1.ch S.1.tn) jN - (force S.1 pN) + 2 else 1) hx lk_X6_278 dX6_spreadFor_44 (Nat.le_of_ble_eq_true rfl) rfl ?_
    refine J_istore (lsn := [vR (o), vI (((pN : Nat) : Int)), vI (((jN : Nat) : Int)), vI (0), vI (if 1 < strl S.1 (S.1.ch S.1.tn) jN - (force S.1 pN) + 2 then strl S.1 (S.1.ch S.1.tn) jN - (force S.1 pN) + 2 else 1)]) hx dX6_spreadFor_47 (Nat.le_of_ble_eq_true rfl) rfl rfl ?_
    refine J_iload hx dX6_spreadFor_49 rfl ?_
    refine J_bipush (v := 10) hx dX6_spreadFor_51 (by decide) ?_
    refine J_icmp_le (tgt := 60) hx dX6_spreadFor_53 (by decide) (fun c6 => ?_) (fun c6 => ?_)
    · refine J_iload hx dX6_spreadFor_60 rfl ?_
      refine J_iret hx hr dX6_spreadFor_62 ?_
      exact hQ.same (v := if 1 < strl S.1 (S.1.ch S.1.tn) jN - (force S.1 pN) + 2 then strl S.1 (S.1.ch S.1.tn) jN - (force S.1 pN) + 2 else 1) (S := S) (by
        unfold a_spreadFor
        all_goals (try unfold overY at *)
        all_goals (try unfold mayQ at *)
        all_goals (try simp only [Int.toNat_natCast] at *)
        all_goals ((repeat' split) <;> first | rfl | (exfalso; omega) | (congr 1; omega))) hC hN
    · refine J_iconst (v := -1) hx dX6_spreadFor_56 (by decide) ?_
      refine J_goto (tgt := 62) hx dX6_spreadFor_57 (by decide) ?_
      refine J_iret hx hr dX6_spreadFor_62 ?_
      exact hQ.same (v := (-1)) (S := S) (by
        unfold a_spreadFor
        all_goals (try unfold overY at *)
        all_goals (try unfold mayQ at *)
        all_goals (try simp only [Int.toNat_natCast] at *)
        all_goals ((repeat' split) <;> first | rfl | (exfalso; omega) | (congr 1; omega))) hC hN
  · refine J_istore_n (lsn := [vR (o), vI (p), vI (j), vI ((-5)), vU]) hx dX6_spreadFor_6 (i := 3) rfl (Nat.le_of_ble_eq_true rfl) rfl rfl ?_
    refine J_iload_n hx dX6_spreadFor_7 (i := 3) rfl rfl ?_
    refine J_if_eq (tgt := 17) hx dX6_spreadFor_8 (by decide) (fun c9 => absurd c9 (by decide)) (fun _ => ?_)
    refine J_aload_n hx dX6_spreadFor_11 (i := 0) rfl rfl ?_
    refine J_iload_n hx dX6_spreadFor_12 (i := 3) rfl rfl ?_
    refine J_invV (As := [vI ((-5))]) (st := []) hx lk_X6_67 okX6_refuse dX6_spreadFor_13 hC.o (by decide) rfl rfl rfl (Nat.le_of_ble_eq_true rfl) (Nat.zero_add _).symm (Nat.zero_add _).symm rfl (c_X6_refuse hC hN hW (k := 3) (by decide) ?_)
    intro M1 hN1 hf1
    refine J_iret hx hr dX6_spreadFor_16 ?_
    exact hQ.to (v := -((3 + 2 : Nat) : Int)) (S := rfS S 3) (by
      unfold a_spreadFor
      all_goals (try unfold overY at *)
      all_goals (try unfold mayQ at *)
      all_goals (try simp only [Int.toNat_natCast] at *)
      all_goals ((repeat' split) <;> first | rfl | (exfalso; omega) | (congr 1; omega))) hC hN1 hf1

set_option maxHeartbeats 4000000 in
theorem c_X6_yardsFor {g : WG} {d : Nat} {T : TT} {M : MM} {o sz : Nat} {S : ST} {Q : MVal → TT → MM → Nat → Prop} (hC : CT T o) (hN : CN M o S) (hW : WFS S) {p j : Int} (h_p : -2147483648 ≤ p ∧ p ≤ 2147483647) (h_j : -2147483648 ≤ j ∧ j ≤ 2147483647) (hQ : CQ o T M sz Q (a_yardsFor S p j)) : Ct g (d + 4) mX6_yardsFor [vR (o), vI (p), vI (j)] T M sz 0 0 Q := by
  refine Ct_of2 (ls := [vR (o), vI (p), vI (j), vU, vU, vU]) okX6_yardsFor rfl (Nat.le_of_ble_eq_true rfl) rfl ?_
  intro x hx hr hnm
  have hn8 := hW.y.n8
  have ht2 := hW.y.tn2
  have hl8 := hW.y.len8 ht2
  refine J_aload_n hx dX6_yardsFor_0 (i := 0) rfl rfl ?_
  refine J_iload_n hx dX6_yardsFor_1 (i := 1) rfl rfl ?_
  refine J_iload_n hx dX6_yardsFor_2 (i := 2) rfl rfl ?_
  refine J_invV (As := [vI (p), vI (j)]) (st := []) hx lk_X6_220 okX6_faultOfRunner dX6_yardsFor_3 hC.o (by decide) rfl rfl rfl (Nat.le_of_ble_eq_true rfl) (Nat.zero_add _).symm (Nat.zero_add _).symm rfl (c_X6_faultOfRunner hC hN hW (p := p) (j := j) ?_)
  rintro vf (⟨rfl, hvf⟩ | ⟨rfl, hvf⟩ | ⟨rfl, hvf⟩)
  · refine J_istore_n (lsn := [vR (o), vI (p), vI (j), vI ((-2)), vU, vU]) hx dX6_yardsFor_6 (i := 3) rfl (Nat.le_of_ble_eq_true rfl) rfl rfl ?_
    refine J_iload_n hx dX6_yardsFor_7 (i := 3) rfl rfl ?_
    refine J_if_eq (tgt := 17) hx dX6_yardsFor_8 (by decide) (fun c9 => absurd c9 (by decide)) (fun _ => ?_)
    refine J_aload_n hx dX6_yardsFor_11 (i := 0) rfl rfl ?_
    refine J_iload_n hx dX6_yardsFor_12 (i := 3) rfl rfl ?_
    refine J_invV (As := [vI ((-2))]) (st := []) hx lk_X6_67 okX6_refuse dX6_yardsFor_13 hC.o (by decide) rfl rfl rfl (Nat.le_of_ble_eq_true rfl) (Nat.zero_add _).symm (Nat.zero_add _).symm rfl (c_X6_refuse hC hN hW (k := 0) (by decide) ?_)
    intro M1 hN1 hf1
    refine J_iret hx hr dX6_yardsFor_16 ?_
    exact hQ.to (v := -((0 + 2 : Nat) : Int)) (S := rfS S 0) (by
      unfold a_yardsFor
      all_goals (try unfold overY at *)
      all_goals (try unfold mayQ at *)
      all_goals (try simp only [Int.toNat_natCast] at *)
      all_goals ((repeat' split) <;> first | rfl | (exfalso; omega) | (congr 1; omega))) hC hN1 hf1
  · refine J_istore_n (lsn := [vR (o), vI (p), vI (j), vI (0), vU, vU]) hx dX6_yardsFor_6 (i := 3) rfl (Nat.le_of_ble_eq_true rfl) rfl rfl ?_
    refine J_iload_n hx dX6_yardsFor_7 (i := 3) rfl rfl ?_
    refine J_if_eq (tgt := 17) hx dX6_yardsFor_8 (by decide) (fun _ => ?_) (fun c9 => absurd c9 (by decide))
    obtain ⟨pN, rfl⟩ : ∃ z : Nat, p = ((z : Nat) : Int) := ⟨p.toNat, by omega⟩
    obtain ⟨jN, rfl⟩ : ∃ z : Nat, j = ((z : Nat) : Int) := ⟨j.toNat, by omega⟩
    refine J_aload_n hx dX6_yardsFor_17 (i := 0) rfl rfl ?_
    refine J_getR (b := o + 1) hx fl_X6_10 cl_X6 dX6_yardsFor_18 hC.o (by decide) rfl hC.r0 ?_
    refine J_iload_n hx dX6_yardsFor_21 (i := 1) rfl rfl ?_
    refine J_invV (As := [vI (((pN : Nat) : Int))]) (st := []) hx lk_X6_129 okX5_forceOf dX6_yardsFor_22 hC.y0.o (by decide) rfl rfl rfl (Nat.le_of_ble_eq_true rfl) (Nat.zero_add _).symm (Nat.zero_add _).symm rfl (c_X5_forceOf hC.y0 hN.y hW.y (p := pN) (by omega) ?_)
    have rg3 := force_rg hW.y (p := pN) (by omega)
    refine J_aload_n hx dX6_yardsFor_25 (i := 0) rfl rfl ?_
    refine J_getR (b := o + 1) hx fl_X6_10 cl_X6 dX6_yardsFor_26 hC.o (by decide) rfl hC.r0 ?_
    refine J_getI2 (v := S.1.sc 1) hx fl_X6_157 cl_X5 dX6_yardsFor_29 hC.y0.o (by decide) rfl hN.y.s1 ?_
    have rg4 := hW.y.s1
    refine J_iconst (v := 3) hx dX6_yardsFor_32 (by decide) ?_
    refine J_idiv (v := (S.1.sc 1) / 3) hx dX6_yardsFor_33 (by omega) (jdiv (by omega) (by omega) (by omega)) ?_
    refine J_isub (v := force S.1 pN - ((S.1.sc 1) / 3)) hx dX6_yardsFor_34 (w32_id (by omega) (by omega)) ?_
    refine J_istore (lsn := [vR (o), vI (((pN : Nat) : Int)), vI (((jN : Nat) : Int)), vI (0), vI (force S.1 pN - ((S.1.sc 1) / 3)), vU]) hx dX6_yardsFor_35 (Nat.le_of_ble_eq_true rfl) rfl rfl ?_
    refine J_iconst (v := 3) hx dX6_yardsFor_37 (by decide) ?_
    refine J_iconst (v := 0) hx dX6_yardsFor_38 (by decide) ?_
    refine J_aload_n hx dX6_yardsFor_39 (i := 0) rfl rfl ?_
    refine J_getR (b := o + 1) hx fl_X6_10 cl_X6 dX6_yardsFor_40 hC.o (by decide) rfl hC.r0 ?_
    refine J_aload_n hx dX6_yardsFor_43 (i := 0) rfl rfl ?_
    refine J_getR (b := o + 1) hx fl_X6_10 cl_X6 dX6_yardsFor_44 hC.o (by decide) rfl hC.r0 ?_
    refine J_getI2 (v := ((S.1.tn : Nat) : Int)) hx fl_X6_169 cl_X5 dX6_yardsFor_47 hC.y0.o (by decide) rfl (hN.y.tn hW.y) ?_
    have rg5 := hW.y.tn2
    refine J_iload_n hx dX6_yardsFor_50 (i := 2) rfl rfl ?_
    refine J_invV (As := [vI (((S.1.tn : Nat) : Int)), vI (((jN : Nat) : Int))]) (st := [vI (0), vI (3)]) hx lk_X6_208 okX5_strengthAt dX6_yardsFor_51 hC.y0.o (by decide) rfl rfl rfl (Nat.le_of_ble_eq_true rfl) (Nat.zero_add _).symm (Nat.zero_add _).symm rfl (c_X5_strengthAt hC.y0 hN.y hW.y (c := S.1.tn) (by omega) (j := jN) (by omega) ?_)
    have rg6 := strl_rg hW.y (l := S.1.ch S.1.tn) (fun p hp => hW.y.lt (by omega) hp) (j := jN) (by omega)
    refine J_iconst (v := 1) hx dX6_yardsFor_54 (by decide) ?_
    refine J_iadd (v := strl S.1 (S.1.ch S.1.tn) jN + 1) hx dX6_yardsFor_55 (w32_id (by omega) (by omega)) ?_
    refine J_iload hx dX6_yardsFor_56 rfl ?_
    refine J_isub (v := strl S.1 (S.1.ch S.1.tn) jN + 1 - (force S.1 pN - ((S.1.sc 1) / 3))) hx dX6_yardsFor_58 (w32_id (by omega) (by omega)) ?_
    refine J_mmax (v := if 0 < strl S.1 (S.1.ch S.1.tn) jN + 1 - (force S.1 pN - ((S.1.sc 1) / 3)) then strl S.1 (S.1.ch S.1.tn) jN + 1 - (force S.1 pN - ((S.1.sc 1) / 3)) else 0) hx lk_X6_278 dX6_yardsFor_59 (Nat.le_of_ble_eq_true rfl) rfl ?_
    refine J_imul (v := 3 * (if 0 < strl S.1 (S.1.ch S.1.tn) jN + 1 - (force S.1 pN - ((S.1.sc 1) / 3)) then strl S.1 (S.1.ch S.1.tn) jN + 1 - (force S.1 pN - ((S.1.sc 1) / 3)) else 0)) hx dX6_yardsFor_62 (w32_id (by omega) (by omega)) ?_
    refine J_istore (lsn := [vR (o), vI (((pN : Nat) : Int)), vI (((jN : Nat) : Int)), vI (0), vI (force S.1 pN - ((S.1.sc 1) / 3)), vI (3 * (if 0 < strl S.1 (S.1.ch S.1.tn) jN + 1 - (force S.1 pN - ((S.1.sc 1) / 3)) then strl S.1 (S.1.ch S.1.tn) jN + 1 - (force S.1 pN - ((S.1.sc 1) / 3)) else 0))]) hx dX6_yardsFor_63 (Nat.le_of_ble_eq_true rfl) rfl rfl ?_
    refine J_iload hx dX6_yardsFor_65 rfl ?_
    refine J_bipush (v := 30) hx dX6_yardsFor_67 (by decide) ?_
    refine J_icmp_le (tgt := 76) hx dX6_yardsFor_69 (by decide) (fun c7 => ?_) (fun c7 => ?_)
    · refine J_iload hx dX6_yardsFor_76 rfl ?_
      refine J_iret hx hr dX6_yardsFor_78 ?_
      exact hQ.same (v := 3 * (if 0 < strl S.1 (S.1.ch S.1.tn) jN + 1 - (force S.1 pN - ((S.1.sc 1) / 3)) then strl S.1 (S.1.ch S.1.tn) jN + 1 - (force S.1 pN - ((S.1.sc 1) / 3)) else 0)) (S := S) (by
        unfold a_yardsFor
        all_goals (try unfold overY at *)
        all_goals (try unfold mayQ at *)
        all_goals (try simp only [Int.toNat_natCast] at *)
        all_goals ((repeat' split) <;> first | rfl | (exfalso; omega) | (congr 1; omega))) hC hN
    · refine J_iconst (v := -1) hx dX6_yardsFor_72 (by decide) ?_
      refine J_goto (tgt := 78) hx dX6_yardsFor_73 (by decide) ?_
      refine J_iret hx hr dX6_yardsFor_78 ?_
      exact hQ.same (v := (-1)) (S := S) (by
        unfold a_yardsFor
        all_goals (try unfold overY at *)
        all_goals (try unfold mayQ at *)
        all_goals (try simp only [Int.toNat_natCast] at *)
        all_goals ((repeat' split) <;> first | rfl | (exfalso; omega) | (congr 1; omega))) hC hN
  · refine J_istore_n (lsn := [vR (o), vI (p), vI (j), vI ((-5)), vU, vU]) hx dX6_yardsFor_6 (i := 3) rfl (Nat.le_of_ble_eq_true rfl) rfl rfl ?_
    refine J_iload_n hx dX6_yardsFor_7 (i := 3) rfl rfl ?_
    refine J_if_eq (tgt := 17) hx dX6_yardsFor_8 (by decide) (fun c9 => absurd c9 (by decide)) (fun _ => ?_)
    refine J_aload_n hx dX6_yardsFor_11 (i := 0) rfl rfl ?_
    refine J_iload_n hx dX6_yardsFor_12 (i := 3) rfl rfl ?_
    refine J_invV (As := [vI ((-5))]) (st := []) hx lk_X6_67 okX6_refuse dX6_yardsFor_13 hC.o (by decide) rfl rfl rfl (Nat.le_of_ble_eq_true rfl) (Nat.zero_add _).symm (Nat.zero_add _).symm rfl (c_X6_refuse hC hN hW (k := 3) (by decide) ?_)
    intro M1 hN1 hf1
    refine J_iret hx hr dX6_yardsFor_16 ?_
    exact hQ.to (v := -((3 + 2 : Nat) : Int)) (S := rfS S 3) (by
      unfold a_yardsFor
      all_goals (try unfold overY at *)
      all_goals (try unfold mayQ at *)
      all_goals (try simp only [Int.toNat_natCast] at *)
      all_goals ((repeat' split) <;> first | rfl | (exfalso; omega) | (congr 1; omega))) hC hN1 hf1

