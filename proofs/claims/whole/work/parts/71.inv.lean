def shK (n : Nat) (x : Int × Int × (Nat → Int)) : Prop := (x.1 = -1 ∨ (0 ≤ x.1 ∧ x.1 ≤ 4) ∨ (10 ≤ x.1 ∧ x.1 < 10 + n)) ∧ 0 ≤ x.2.1 ∧ x.2.1 ≤ 40
/-- well-formed, with no more than k refusals of a kind -/
def WFn (k : Nat) (S : ST) : Prop := WFY S.1 ∧ (∀ K, S.K = some K → WFY K) ∧ (∀ s, s < 8 → shK S.1.n (S.sh s)) ∧ (S.tp.1 ≤ 250 ∧ ∀ j, j < S.tp.1 → 0 ≤ S.tp.2 j ∧ S.tp.2 j ≤ 255) ∧ ∀ j, j < 5 → 0 ≤ S.rf j ∧ S.rf j ≤ ((k : Nat) : Int)
theorem WFn.s {k : Nat} {S : ST} (h : WFn k S) (hk : k < 1000000) : WFS S := ⟨h.1, h.2.1, h.2.2.1, h.2.2.2.1, fun j hj => by have := h.2.2.2.2 j hj; omega⟩
theorem WFn.up {k : Nat} {S : ST} (h : WFn k S) : WFn (k + 1) S := ⟨h.1, h.2.1, h.2.2.1, h.2.2.2.1, fun j hj => by have := h.2.2.2.2 j hj; omega⟩
theorem WFn.rf {k : Nat} {S : ST} (h : WFn k S) (q : Nat) : WFn (k + 1) (rfS S q) := ⟨h.1, h.2.1, h.2.2.1, h.2.2.2.1, fun j hj => by
  have h1 := h.2.2.2.2 j hj
  show 0 ≤ (if j = q then S.rf j + 1 else S.rf j) ∧ (if j = q then S.rf j + 1 else S.rf j) ≤ ((k + 1 : Nat) : Int)
  split <;> omega⟩
theorem WFn.ys {k : Nat} {S : ST} (h : WFn k S) {A : YA} (hA : WFY A) (hn : S.1.n ≤ A.n) : WFn (k + 1) (yS S A) := ⟨hA, h.2.1, fun s hs => ⟨by have h2 := (h.2.2.1 s hs).1; show ((S.sh s).1 = -1 ∨ (0 ≤ (S.sh s).1 ∧ (S.sh s).1 ≤ 4) ∨ (10 ≤ (S.sh s).1 ∧ (S.sh s).1 < 10 + (A.n : Int))); omega, (h.2.2.1 s hs).2⟩, h.2.2.2.1, h.up.2.2.2.2⟩
theorem WFn.shv {k : Nat} {S : ST} (h : WFn k S) (s : Nat) {x : Int × Int × (Nat → Int)} (hx : shK S.1.n x) : WFn (k + 1) (shS S s x) := ⟨h.1, h.2.1, fun s' hs => by
  show shK S.1.n (if s' = s then x else S.sh s')
  split
  · exact hx
  · exact h.2.2.1 s' hs, h.2.2.2.1, h.up.2.2.2.2⟩
theorem WFn.tpv {k : Nat} {S : ST} (h : WFn k S) {t : Nat × (Nat → Int)} (ht : t.1 ≤ 250 ∧ ∀ j, j < t.1 → 0 ≤ t.2 j ∧ t.2 j ≤ 255) : WFn (k + 1) (tpS S t) := ⟨h.1, h.2.1, h.2.2.1, ht, h.up.2.2.2.2⟩
theorem n_runH (A : YA) (p j : Nat) : (runH A p j).n = A.n := by first | rfl | (unfold runH; (repeat' split) <;> rfl)
theorem n_runT (A : YA) (p j t : Nat) : (runT A p j t).n = A.n := by first | rfl | (unfold runT runTB; (repeat' split) <;> rfl)
theorem n_stepR (A : YA) : (stepR A).1.n = A.n := by
  unfold stepR
  split
  · exact n_runT _ _ _ _
  · exact n_runH _ _ _
theorem rns_wf : ∀ (k t : Nat) {A : YA}, WFY A → WFY (rnsY k A t).1 ∧ (rnsY k A t).1.n = A.n
  | 0, t, A, h => ⟨h, rfl⟩
  | k + 1, t, A, h => by
    by_cases ho : overY A
    · rw [rnsY_over ho]; exact ⟨h, rfl⟩
    · rw [rnsY_go ho]
      have := rns_wf k (t + (stepR A).2) (stepR_wf h ho)
      exact ⟨this.1, this.2.trans (n_stepR A)⟩
theorem n_bkN (A : YA) (v : Nat) : (bkN A v).n = A.n := by
  unfold bkN
  split
  · exact n_runH _ _ _
  · exact n_runT _ _ _ _
theorem n_bkZ {e : Nat → Int} : ∀ (k i : Nat) (A : YA), (bkZ e k i A).2.n = A.n
  | 0, i, A => rfl
  | k + 1, i, A => by
    by_cases ho : bkOK A (e i)
    · rw [bkZ_y ho, n_bkZ k (i + 1) _, n_bkN]
    · rw [bkZ_n ho]
theorem n_sOne (B : Nat → Int) (z : Nat) (A : YA) (tk : TK) : A.n ≤ (sOne B z A tk).2.1.n := by unfold sOne; (repeat' split) <;> first | exact Nat.le_refl _ | exact Nat.le_succ _
theorem n_sTir (B : Nat → Int) (z : Nat) (A : YA) (tk : TK) : A.n ≤ (sTir B z A tk).2.1.n := by unfold sTir; (repeat' split) <;> exact Nat.le_refl _
theorem n_sAsk (B : Nat → Int) (z : Nat) (A : YA) (tk : TK) (q : Nat) (lo hi : Int) : A.n ≤ (sAsk B z A tk q lo hi).2.1.n := by unfold sAsk; (repeat' split) <;> exact Nat.le_refl _
theorem n_sRun (B : Nat → Int) (z : Nat) (A : YA) (tk : TK) : A.n ≤ (sRun B z A tk).2.1.n := by unfold sRun; (repeat' split) <;> first | exact Nat.le_refl _ | exact Nat.le_of_eq (n_runT _ _ _ _).symm | exact Nat.le_of_eq (n_runH _ _ _).symm
theorem n_stR (B : Nat → Int) (z : Nat) (A : YA) (tk : TK) : A.n ≤ (stR B z A tk).2.1.n := by
  unfold stR
  split
  · exact n_sOne _ _ _ _
  · split
    · exact n_sTir _ _ _ _
    · split
      · exact n_sRun _ _ _ _
      · split
        · exact n_sAsk _ _ _ _ _ _ _
        · split
          · exact n_sAsk _ _ _ _ _ _ _
          · split
            · exact n_sAsk _ _ _ _ _ _ _
            · split
              · exact n_sAsk _ _ _ _ _ _ _
              · exact Nat.le_refl _
theorem n_rdZ (B : Nat → Int) (z : Nat) : ∀ (k n : Nat) (A : YA) (tk : TK), A.n ≤ (rdZ B z k n A tk).2.1.n
  | 0, n, A, tk => Nat.le_refl _
  | k + 1, n, A, tk => by
    have h1 := n_stR B z A tk
    rw [rdZ_s]
    split
    · exact Nat.le_refl _
    · split
      · exact h1
      · split
        · exact Nat.le_refl _
        · exact Nat.le_trans h1 (n_rdZ B z k (n + 1) _ _)

theorem w_weakest {kk : Nat} {S : ST} (c : Int) (h : WFn kk S) : WFn (kk + 1) (a_weakest S c).2 := by
  unfold a_weakest
  (repeat' split) <;> first | exact h.up | exact h.rf _
theorem w_strongest {kk : Nat} {S : ST} (c : Int) (h : WFn kk S) : WFn (kk + 1) (a_strongest S c).2 := by
  unfold a_strongest
  (repeat' split) <;> first | exact h.up | exact h.rf _
theorem w_hardest {kk : Nat} {S : ST} (c : Int) (h : WFn kk S) : WFn (kk + 1) (a_hardest S c).2 := by
  unfold a_hardest
  (repeat' split) <;> first | exact h.up | exact h.rf _
theorem w_strength {kk : Nat} {S : ST} (c : Int) (j : Int) (h : WFn kk S) : WFn (kk + 1) (a_strength S c j).2 := by
  unfold a_strength
  (repeat' split) <;> first | exact h.up | exact h.rf _
theorem w_chainOf {kk : Nat} {S : ST} (c : Int) (k : Int) (h : WFn kk S) : WFn (kk + 1) (a_chainOf S c k).2 := by
  unfold a_chainOf
  (repeat' split) <;> first | exact h.up | exact h.rf _
theorem w_oneOf {kk : Nat} {S : ST} (p : Int) (w : Int) (h : WFn kk S) : WFn (kk + 1) (a_oneOf S p w).2 := by
  unfold a_oneOf
  (repeat' split) <;> first | exact h.up | exact h.rf _
theorem w_odds {kk : Nat} {S : ST} (p : Int) (j : Int) (h : WFn kk S) : WFn (kk + 1) (a_odds S p j).2 := by
  unfold a_odds
  (repeat' split) <;> first | exact h.up | exact h.rf _
theorem w_at {kk : Nat} {S : ST} (p : Int) (h : WFn kk S) : WFn (kk + 1) (a_at S p).2 := by
  unfold a_at
  (repeat' split) <;> first | exact h.up | exact h.rf _
theorem w_take {kk : Nat} {S : ST} (j : Int) (h : WFn kk S) : WFn (kk + 1) (a_take S j).2 := by
  unfold a_take
  (repeat' split) <;> first | exact h.up | exact h.rf _
theorem w_call {kk : Nat} {S : ST}  (h : WFn kk S) : WFn (kk + 1) (a_call S).2 := by
  unfold a_call
  (repeat' split) <;> first | exact h.up | exact h.rf _
theorem w_won {kk : Nat} {S : ST}  (h : WFn kk S) : WFn (kk + 1) (a_won S).2 := by
  unfold a_won
  (repeat' split) <;> first | exact h.up | exact h.rf _
theorem w_over {kk : Nat} {S : ST}  (h : WFn kk S) : WFn (kk + 1) (a_over S).2 := by
  unfold a_over
  (repeat' split) <;> first | exact h.up | exact h.rf _
theorem w_pair {kk : Nat} {S : ST}  (h : WFn kk S) : WFn (kk + 1) (a_pair S).2 := by
  unfold a_pair
  (repeat' split) <;> first | exact h.up | exact h.rf _
theorem w_tiredest {kk : Nat} {S : ST}  (h : WFn kk S) : WFn (kk + 1) (a_tiredest S).2 := by
  unfold a_tiredest
  (repeat' split) <;> first | exact h.up | exact h.rf _
theorem w_spreadFor {kk : Nat} {S : ST} (p : Int) (j : Int) (h : WFn kk S) : WFn (kk + 1) (a_spreadFor S p j).2 := by
  unfold a_spreadFor
  (repeat' split) <;> first | exact h.up | exact h.rf _
theorem w_yardsFor {kk : Nat} {S : ST} (p : Int) (j : Int) (h : WFn kk S) : WFn (kk + 1) (a_yardsFor S p j).2 := by
  unfold a_yardsFor
  (repeat' split) <;> first | exact h.up | exact h.rf _
theorem w_holds {kk : Nat} {S : ST} (s : Int) (h : WFn kk S) : WFn (kk + 1) (a_holds S s).2 := by
  unfold a_holds
  (repeat' split) <;> first | exact h.up | exact h.rf _
theorem w_could {kk : Nat} {S : ST} (j : Int) (e : Int) (h : WFn kk S) : WFn (kk + 1) (a_could S j e).2 := by
  unfold a_could
  (repeat' split) <;> first | exact h.up | exact h.rf _
theorem w_swap {kk : Nat} {S : ST} (c : Int) (e : Int) (h : WFn kk S) : WFn (kk + 1) (a_swap S c e).2 := by
  unfold a_swap
  (repeat' split) <;> first | exact h.up | exact h.rf _
theorem w_says {kk : Nat} {S : ST} (s : Int) (w : Int) (h : WFn kk S) : WFn (kk + 1) (a_says S s w).2 := by
  unfold a_says
  (repeat' split) <;> first | exact h.up | exact h.rf _
theorem w_play {kk : Nat} {S : ST} (rule : Int) (w : Int) (h : WFn kk S) : WFn (kk + 1) (a_play S rule w).2 := by
  unfold a_play
  (repeat' split) <;> first | exact h.up | exact h.rf _
theorem w_leads {kk : Nat} {S : ST} (rule : Int) (h : WFn kk S) : WFn (kk + 1) (a_leads S rule).2 := by
  unfold a_leads
  (repeat' split) <;> first | exact h.up | exact h.rf _
theorem w_judge {kk : Nat} {S : ST} (s : Int) (n : Int) (h : WFn kk S) : WFn (kk + 1) (a_judge S s n).2 := by
  unfold a_judge
  (repeat' split) <;> first | exact h.up | exact h.rf _
theorem w_behind {kk : Nat} {S : ST} (s : Int) (n : Int) (w : Int) (h : WFn kk S) : WFn (kk + 1) (a_behind S s n w).2 := by
  unfold a_behind
  (repeat' split) <;> first | exact h.up | exact h.rf _
theorem w_game {kk : Nat} {S : ST} (d : Int) (h : WFn kk S) : WFn (kk + 1) (a_game S d).2 := by
  unfold a_game
  (repeat' split) <;> first | exact h.up | exact h.rf _
theorem w_first {kk : Nat} {S : ST} (d : Int) (h : WFn kk S) : WFn (kk + 1) (a_first S d).2 := by
  unfold a_first
  (repeat' split) <;> first | exact h.up | exact h.rf _
theorem w_together {kk : Nat} {S : ST} (c : Int) (h : WFn kk S) : WFn (kk + 1) (a_together S c).2 := by
  unfold a_together
  (repeat' split) <;> first | exact h.up | exact h.rf _
theorem w_stand {kk : Nat} {S : ST} (c : Int) (i : Int) (h : WFn kk S) : WFn (kk + 1) (a_stand S c i).2 := by
  unfold a_stand
  (repeat' split) <;> first | exact h.up | exact h.rf _
theorem w_worth {kk : Nat} {S : ST} (c : Int) (h : WFn kk S) : WFn (kk + 1) (a_worth S c).2 := by
  unfold a_worth
  (repeat' split) <;> first | exact h.up | exact h.rf _
theorem s_status (S : ST) (w : Int) : (a_status S w).2 = S := by unfold a_status; simp only [apply_ite Prod.snd, ite_self]
theorem w_status {kk : Nat} {S : ST} (w : Int) (h : WFn kk S) : WFn (kk + 1) (a_status S w).2 := by rw [s_status]; exact h.up
theorem k_status (S : ST) (w : Int) : (a_status S w).2.K = S.K := by rw [s_status]
theorem w_seed {kk : Nat} {S : ST} (v : Int) (hv : -2147483648 ≤ v ∧ v ≤ 2147483647) (h : WFn kk S) : WFn (kk + 1) (a_seed S v).2 := by
  unfold a_seed
  exact h.ys (seed_wf h.1 hv) (Nat.le_refl _)
theorem w_rest {kk : Nat} {S : ST} (n : Int) (h : WFn kk S) : WFn (kk + 1) (a_rest S n).2 := by
  unfold a_rest
  split
  · exact h.rf _
  · exact h.ys (rstK_wf h.1 (by omega) _) (Nat.le_refl _)
theorem w_again {kk : Nat} {S : ST}  (h : WFn kk S) : WFn (kk + 1) (a_again S).2 := by
  unfold a_again
  exact h.ys (rstK_wf (setS_wf (setS_wf h.1 (by decide)) (by decide)) (by decide) _) (Nat.le_refl _)
theorem w_tell {kk : Nat} {S : ST} (p : Int) (w : Int) (v : Int) (h : WFn kk S) : WFn (kk + 1) (a_tell S p w v).2 := by
  unfold a_tell
  split
  · exact h.rf _
  · exact h.ys (setA_wf h.1 (by omega) (by omega)) (Nat.le_refl _)
theorem w_ask {kk : Nat} {S : ST} (what : Int) (v : Int) (h : WFn kk S) : WFn (kk + 1) (a_ask S what v).2 := by
  unfold a_ask
  split
  · exact h.rf _
  · exact h.ys (setS_wf h.1 (by omega)) (Nat.le_refl _)
theorem w_one {kk : Nat} {S : ST} (c : Int) (k : Int) (gr : Int) (w : Int) (a : Int) (h : WFn kk S) : WFn (kk + 1) (a_one S c k gr w a).2 := by
  unfold a_one
  split
  · exact h.rf _
  · split
    · exact h.rf _
    · exact h.ys (addY_wf h.1 (by omega) (by omega) (by omega) (by omega) (by omega) (by omega)) (Nat.le_succ _)
theorem w_row {kk : Nat} {S : ST} (s : Int) (sort : Int) (n : Int) (h : WFn kk S) : WFn (kk + 1) (a_row S s sort n).2 := by
  unfold a_row
  split
  · exact h.rf _
  · exact h.shv _ ⟨by show (sort = -1 ∨ (0 ≤ sort ∧ sort ≤ 4) ∨ _); omega, by show 0 ≤ n ∧ n ≤ 40; omega⟩
theorem w_show {kk : Nat} {S : ST} (s : Int) (p : Int) (h : WFn kk S) : WFn (kk + 1) (a_show S s p).2 := by
  unfold a_show
  split
  · exact h.rf _
  · exact h.shv _ ⟨by show ((if p = -1 then -1 else 10 + p) = -1 ∨ (0 ≤ (if p = -1 then -1 else 10 + p) ∧ (if p = -1 then -1 else 10 + p) ≤ 4) ∨ (10 ≤ (if p = -1 then -1 else 10 + p) ∧ (if p = -1 then -1 else 10 + p) < 10 + (S.1.n : Int))); split <;> omega, by show (0 : Int) ≤ 0 ∧ (0 : Int) ≤ 40; omega⟩
theorem w_feed {kk : Nat} {S : ST} (b : Int) (h : WFn kk S) : WFn (kk + 1) (a_feed S b).2 := by
  unfold a_feed
  split
  · exact h.rf _
  · split
    · exact h.rf _
    · exact h.tpv ⟨by show S.tp.1 + 1 ≤ 250; omega, fun j9 h9 => by
        show 0 ≤ (if j9 = S.tp.1 then b else S.tp.2 j9) ∧ (if j9 = S.tp.1 then b else S.tp.2 j9) ≤ 255
        have h8 : j9 < S.tp.1 + 1 := h9
        split
        · omega
        · exact h.2.2.2.1.2 j9 (by omega)⟩
theorem w_wipe {kk : Nat} {S : ST}  (h : WFn kk S) : WFn (kk + 1) (a_wipe S).2 := by
  unfold a_wipe
  exact h.tpv ⟨Nat.zero_le _, fun j9 h9 => absurd h9 (Nat.not_lt_zero j9)⟩
theorem w_set {kk : Nat} {S : ST} (s : Int) (i : Int) (v : Int) (h : WFn kk S) : WFn (kk + 1) (a_set S s i v).2 := by
  unfold a_set
  split
  · exact h.rf _
  · split
    · exact h.rf _
    · split
      · exact h.rf _
      · split
        · exact h.rf _
        · exact h.shv _ (h.2.2.1 s.toNat (by omega))
theorem w_run {kk : Nat} {S : ST} (p : Int) (j : Int) (e : Int) (h : WFn kk S) : WFn (kk + 1) (a_run S p j e).2 := by
  unfold a_run
  split
  · exact h.rf _
  · split
    · exact h.rf _
    · rename_i c1 c2
      have ho : ¬ overY (drawn S.1) := fun q => c2 (Or.inr q)
      have hc : (drawn S.1).co p.toNat ≠ (drawn S.1).tn := fun q => c2 (Or.inl q)
      have hj : j.toNat + 1 < ((drawn S.1).ch (drawn S.1).tn).length := by show j.toNat + 1 < (S.1.ch S.1.tn).length; omega
      have hp : p.toNat < (drawn S.1).n := by show p.toNat < S.1.n; omega
      have hj1 : j.toNat + 1 < (S.1.ch S.1.tn).length := hj
      have htk : takenY S.1 j.toNat e.toNat ∈ (drawn S.1).ch (drawn S.1).tn := taken_mem (A := S.1) h.1 hj1 (by omega)
      split
      · exact h.ys (runT_wf (drawn_wf h.1) hp hc hj ho htk) (by rw [n_runT]; exact Nat.le_refl S.1.n)
      · exact h.ys (runH_wf (drawn_wf h.1) hp hc hj ho) (by rw [n_runH]; exact Nat.le_refl S.1.n)
theorem w_runs {kk : Nat} {S : ST} (n : Int) (h : WFn kk S) : WFn (kk + 1) (a_runs S n).2 := by
  unfold a_runs
  split
  · exact h.rf _
  · exact h.ys (rns_wf _ _ h.1).1 (Nat.le_of_eq (rns_wf _ _ h.1).2.symm)
theorem w_move {kk : Nat} {S : ST} (p : Int) (k : Int) (h : WFn kk S) : WFn (kk + 1) (a_move S p k).2 := by
  unfold a_move
  split
  · exact h.rf _
  · split
    · exact h.rf _
    · exact h.ys (movY_wf h.1 (by omega) _) (Nat.le_refl _)
theorem w_order {kk : Nat} {S : ST} (c : Int) (s : Int) (h : WFn kk S) : WFn (kk + 1) (a_order S c s).2 := by
  unfold a_order
  split
  · exact h.rf _
  · split
    · exact h.rf _
    · split
      · exact h.rf _
      · split
        · exact h.rf _
        · split
          · rename_i hO
            exact h.ys (h.1.perm (by omega) (oLst_perm h.1 (by omega) hO)) (Nat.le_refl _)
          · exact h.rf _
theorem w_copy {kk : Nat} {S : ST} (p : Int) (q : Int) (i : Int) (j : Int) (n : Int) (h : WFn kk S) : WFn (kk + 1) (a_copy S p q i j n).2 := by
  unfold a_copy
  split
  · exact h.rf _
  · split
    · exact h.rf _
    · split
      · exact h.rf _
      · split
        · exact h.rf _
        · exact h.shv _ (h.2.2.1 q.toNat (by omega))
theorem w_booked {kk : Nat} {S : ST} (s : Int) (n : Int) (h : WFn kk S) : WFn (kk + 1) (a_booked S s n).2 := by
  unfold a_booked
  (repeat' split) <;> first | exact h.rf _ | exact h.ys (bkZ_wf _ _ h.1) (Nat.le_of_eq (n_bkZ _ _ _).symm)
theorem w_best {kk : Nat} {S : ST} (c : Int) (h : WFn kk S) : WFn (kk + 1) (a_best S c).2 := by
  unfold a_best
  split
  · exact h.rf _
  · split
    · exact h.rf _
    · exact h.ys (h.1.perm (by omega) (stdY_ok h.1 (by omega)).1) (Nat.le_refl _)
theorem w_image {kk : Nat} {S : ST}  (h : WFn kk S) : WFn (kk + 1) (a_image S).2 := by
  unfold a_image
  exact ⟨h.1, fun K9 e9 => by cases e9; exact h.1, h.2.2.1, h.2.2.2.1, h.up.2.2.2.2⟩
theorem w_back {kk : Nat} {S : ST} (h : WFn kk S) : WFn (kk + 1) (a_back S).2 := by
  unfold a_back
  split
  · exact h.rf _
  · rename_i K eK
    have hK := h.2.1 K eK
    refine ⟨hK, fun K9 e9 => by cases e9; exact hK, fun s hs => ?_, h.2.2.2.1, h.up.2.2.2.2⟩
    have h1 := h.2.2.1 s hs
    show shK K.n (bkSh S K 8 s)
    unfold bkSh
    split
    · exact ⟨Or.inl rfl, h1.2⟩
    · unfold shK at *; omega
theorem w_yard {kk : Nat} {S : ST} (h : WFn kk S) : WFn (kk + 1) (a_yard S).2 := by
  have hz : WFn kk (tpS S (0, S.tp.2)) := ⟨h.1, h.2.1, h.2.2.1, ⟨Nat.zero_le _, fun j9 h9 => absurd h9 (Nat.not_lt_zero j9)⟩, h.2.2.2.2⟩
  unfold a_yard
  split
  · exact hz.rf _
  · exact hz.ys (rdZ_wf h.2.2.2.1.1 250 1 h.1 (tkN_wf S.tp.2 (e := 0) (Nat.zero_le _)).1).1 (n_rdZ _ _ _ _ _ _)
theorem k_weakest (S : ST) (c : Int) : (a_weakest S c).2.K = S.K := by unfold a_weakest; first | rfl | ((repeat' split) <;> rfl)
theorem k_strongest (S : ST) (c : Int) : (a_strongest S c).2.K = S.K := by unfold a_strongest; first | rfl | ((repeat' split) <;> rfl)
theorem k_hardest (S : ST) (c : Int) : (a_hardest S c).2.K = S.K := by unfold a_hardest; first | rfl | ((repeat' split) <;> rfl)
theorem k_strength (S : ST) (c : Int) (j : Int) : (a_strength S c j).2.K = S.K := by unfold a_strength; first | rfl | ((repeat' split) <;> rfl)
theorem k_chainOf (S : ST) (c : Int) (k : Int) : (a_chainOf S c k).2.K = S.K := by unfold a_chainOf; first | rfl | ((repeat' split) <;> rfl)
theorem k_oneOf (S : ST) (p : Int) (w : Int) : (a_oneOf S p w).2.K = S.K := by unfold a_oneOf; first | rfl | ((repeat' split) <;> rfl)
theorem k_odds (S : ST) (p : Int) (j : Int) : (a_odds S p j).2.K = S.K := by unfold a_odds; first | rfl | ((repeat' split) <;> rfl)
theorem k_at (S : ST) (p : Int) : (a_at S p).2.K = S.K := by unfold a_at; first | rfl | ((repeat' split) <;> rfl)
theorem k_take (S : ST) (j : Int) : (a_take S j).2.K = S.K := by unfold a_take; first | rfl | ((repeat' split) <;> rfl)
theorem k_call (S : ST)  : (a_call S).2.K = S.K := by unfold a_call; first | rfl | ((repeat' split) <;> rfl)
theorem k_won (S : ST)  : (a_won S).2.K = S.K := by unfold a_won; first | rfl | ((repeat' split) <;> rfl)
theorem k_over (S : ST)  : (a_over S).2.K = S.K := by unfold a_over; first | rfl | ((repeat' split) <;> rfl)
theorem k_pair (S : ST)  : (a_pair S).2.K = S.K := by unfold a_pair; first | rfl | ((repeat' split) <;> rfl)
theorem k_tiredest (S : ST)  : (a_tiredest S).2.K = S.K := by unfold a_tiredest; first | rfl | ((repeat' split) <;> rfl)
theorem k_spreadFor (S : ST) (p : Int) (j : Int) : (a_spreadFor S p j).2.K = S.K := by unfold a_spreadFor; first | rfl | ((repeat' split) <;> rfl)
theorem k_seed (S : ST) (v : Int) : (a_seed S v).2.K = S.K := by unfold a_seed; first | rfl | ((repeat' split) <;> rfl)
theorem k_rest (S : ST) (n : Int) : (a_rest S n).2.K = S.K := by unfold a_rest; first | rfl | ((repeat' split) <;> rfl)
theorem k_again (S : ST)  : (a_again S).2.K = S.K := by unfold a_again; first | rfl | ((repeat' split) <;> rfl)
theorem k_tell (S : ST) (p : Int) (w : Int) (v : Int) : (a_tell S p w v).2.K = S.K := by unfold a_tell; first | rfl | ((repeat' split) <;> rfl)
theorem k_ask (S : ST) (what : Int) (v : Int) : (a_ask S what v).2.K = S.K := by unfold a_ask; first | rfl | ((repeat' split) <;> rfl)
theorem k_one (S : ST) (c : Int) (k : Int) (gr : Int) (w : Int) (a : Int) : (a_one S c k gr w a).2.K = S.K := by unfold a_one; first | rfl | ((repeat' split) <;> rfl)
theorem k_row (S : ST) (s : Int) (sort : Int) (n : Int) : (a_row S s sort n).2.K = S.K := by unfold a_row; first | rfl | ((repeat' split) <;> rfl)
theorem k_holds (S : ST) (s : Int) : (a_holds S s).2.K = S.K := by unfold a_holds; first | rfl | ((repeat' split) <;> rfl)
theorem k_show (S : ST) (s : Int) (p : Int) : (a_show S s p).2.K = S.K := by unfold a_show; first | rfl | ((repeat' split) <;> rfl)
theorem k_feed (S : ST) (b : Int) : (a_feed S b).2.K = S.K := by unfold a_feed; first | rfl | ((repeat' split) <;> rfl)
theorem k_wipe (S : ST)  : (a_wipe S).2.K = S.K := by unfold a_wipe; first | rfl | ((repeat' split) <;> rfl)
theorem k_set (S : ST) (s : Int) (i : Int) (v : Int) : (a_set S s i v).2.K = S.K := by unfold a_set; first | rfl | ((repeat' split) <;> rfl)
theorem k_run (S : ST) (p : Int) (j : Int) (e : Int) : (a_run S p j e).2.K = S.K := by unfold a_run; first | rfl | ((repeat' split) <;> rfl)
theorem k_runs (S : ST) (n : Int) : (a_runs S n).2.K = S.K := by unfold a_runs; first | rfl | ((repeat' split) <;> rfl)
theorem k_could (S : ST) (j : Int) (e : Int) : (a_could S j e).2.K = S.K := by unfold a_could; first | rfl | ((repeat' split) <;> rfl)
theorem k_swap (S : ST) (c : Int) (e : Int) : (a_swap S c e).2.K = S.K := by unfold a_swap; first | rfl | ((repeat' split) <;> rfl)
theorem k_move (S : ST) (p : Int) (k : Int) : (a_move S p k).2.K = S.K := by unfold a_move; first | rfl | ((repeat' split) <;> rfl)
theorem k_order (S : ST) (c : Int) (s : Int) : (a_order S c s).2.K = S.K := by unfold a_order; first | rfl | ((repeat' split) <;> rfl)
theorem k_says (S : ST) (s : Int) (w : Int) : (a_says S s w).2.K = S.K := by unfold a_says; first | rfl | ((repeat' split) <;> rfl)
theorem k_copy (S : ST) (p : Int) (q : Int) (i : Int) (j : Int) (n : Int) : (a_copy S p q i j n).2.K = S.K := by unfold a_copy; first | rfl | ((repeat' split) <;> rfl)
theorem k_together (S : ST) (c : Int) : (a_together S c).2.K = S.K := by unfold a_together; first | rfl | ((repeat' split) <;> rfl)
theorem k_stand (S : ST) (c : Int) (i : Int) : (a_stand S c i).2.K = S.K := by unfold a_stand; first | rfl | ((repeat' split) <;> rfl)
theorem k_worth (S : ST) (c : Int) : (a_worth S c).2.K = S.K := by unfold a_worth; first | rfl | ((repeat' split) <;> rfl)
theorem k_best (S : ST) (c : Int) : (a_best S c).2.K = S.K := by unfold a_best; first | rfl | ((repeat' split) <;> rfl)
