/-! THE LAW: the room, the script, the two side by side -/
theorem W_room {p : Program} {l : Launch} {e : Env} {R R' : Room} {s : State} {m : MethodId} {args : Array Value} {below : List Frame} {meth : Method} {c : Code} {H : Heap} {locs : List Loc} {cells slots : Nat} {Q : State → Prop} {F : JFrame} (hf : R'.frames ≤ R.frames) (hc : R'.cells ≤ R.cells) (hs : R'.slots ≤ R.slots) (hl : R'.locals ≤ R.locals) (h : W p l e R' s m args below meth c H locs cells slots Q F) : W p l e R s m args below meth c H locs cells slots Q F := fun T hT X => h T hT ⟨X.admits, X.cas, X.clock, X.frames, by
  have h9 := X.room
  simp only [State.hasRoom, Bool.and_eq_true, decide_eq_true_eq] at h9 ⊢
  obtain ⟨⟨⟨⟨h1, h2⟩, h3⟩, h4⟩, h5⟩ := h9
  exact ⟨⟨⟨⟨by omega, by omega⟩, by omega⟩, by omega⟩, h5⟩, X.hears, X.method, X.code, X.here, X.tail, X.warmed, X.limits, X.bytes, X.same⟩
def SCR (g : WG) (x : CX) (b L : Nat) (X : Nat → Int) : Prop := ∃ xs : Nat → Int32, va_X b L xs x.2.2.2.2.1 g.2.2.2.1 ∧ b < g.2.2.1 ∧ L ≤ 3072 ∧ ∀ j, (xs j).toInt = X j
theorem SCR.rg {g : WG} {x : CX} {b L : Nat} {X : Nat → Int} (h : SCR g x b L X) (j : Nat) : -2147483648 ≤ X j ∧ X j ≤ 2147483647 := by
  obtain ⟨xs, -, -, -, h8⟩ := h
  have h1 := Int32.le_toInt (xs j)
  have h2 := Int32.toInt_lt (xs j)
  rw [h8 j] at h1 h2
  omega
theorem SCR.l {g : WG} {x : CX} {b L : Nat} {X : Nat → Int} (h : SCR g x b L X) : L ≤ 3072 := by obtain ⟨_, -, -, h, -⟩ := h; exact h
section
variable {g : WG} {x : CX} {own : String} {cc : ByteArray} {d : Nat} {pc : Nat} {ls st : List MVal} {T : TT} {M : MM} {sz nc ns : Nat}
theorem J_sld (h : OKx g x own cc d) {b L : Nat} {X : Nat → Int} (hS : SCR g x b L X) {i : Int} (n : Nat) (hd : decode cc pc = .ok (.iaload, 1)) (hn : i = (n : Int)) (hlt : n < L)
    (k : Jd g x (pc + 1) ls (vI (X n) :: st) T M sz nc ns) : Jd g x pc ls (vI i :: vR b :: st) T M sz nc ns := by
  obtain ⟨p, l, e, R, s, m, args, below, meth, c, Q⟩ := x
  obtain ⟨hx, hb, hown, hts, hK, -⟩ := h
  obtain ⟨xs, ⟨scr, h1, h2, h3, h4, h5⟩, h6, h7, h8⟩ := hS
  intro H locs cells slots lsC stC hR hlocs hl hs hc1 hc2
  obtain ⟨z, stC, rfl, ez, hs⟩ := st_I hs
  obtain ⟨stC, rfl, hs9⟩ := st_R hs; replace hs := hs9; clear hs9
  obtain ⟨hin, hcl⟩ := in_of ez hn hlt
  refine W.iald (v := .int (xs n)) hx hb (by rw [hR.2.2.1 b h6]; exact h1) h2 h3 (by rw [h4]; exact hin) (by rw [hcl]; exact h5 n hlt) rfl rfl hd ?_
  exact k H locs cells slots lsC _ hR hlocs hl (by rw [List.map_cons, hs, ← h8 n]; rfl) hc1 hc2
theorem J_slen (h : OKx g x own cc d) {b L : Nat} {X : Nat → Int} (hS : SCR g x b L X) (hd : decode cc pc = .ok (.arraylength, 1))
    (k : Jd g x (pc + 1) ls (vI ((L : Nat) : Int) :: st) T M sz nc ns) : Jd g x pc ls (vR b :: st) T M sz nc ns := by
  obtain ⟨p, l, e, R, s, m, args, below, meth, c, Q⟩ := x
  obtain ⟨hx, hb, hown, hts, hK, -⟩ := h
  obtain ⟨xs, ⟨scr, h1, h2, h3, h4, h5⟩, h6, h7, h8⟩ := hS
  intro H locs cells slots lsC stC hR hlocs hl hs hc1 hc2
  obtain ⟨stC, rfl, hs9⟩ := st_R hs; replace hs := hs9; clear hs9
  refine W.alen (n := Int32.ofNat L) hx hb (by rw [hR.2.2.1 b h6]; exact h1) h2 (by rw [h4] <;> rfl) rfl rfl hd ?_
  exact k H locs cells slots lsC _ hR hlocs hl (by rw [List.map_cons, hs]; show vI _ :: _ = _; rw [show (Int32.ofNat L).toInt = ((L : Nat) : Int) from nI_toInt (by omega)]) hc1 hc2
end
def S0 : ST := (Y0, none, fun _ => (-1, 0, fun _ => 0), (0, fun _ => 0), fun _ => 0)
theorem S0_wf : WFn 0 S0 := ⟨Y0_wf, fun K e => (by cases e), fun s _ => ⟨Or.inl rfl, by show (0 : Int) ≤ 0 ∧ (0 : Int) ≤ 40; omega⟩, ⟨Nat.zero_le _, fun j h => absurd h (Nat.not_lt_zero j)⟩, fun j _ => by show (0 : Int) ≤ 0 ∧ (0 : Int) ≤ ((0 : Nat) : Int); omega⟩
theorem not_rowH1 : ¬ rowH (-1) := by unfold rowH; omega
theorem CN_0 {T : TT} {M : MM} {o : Nat} (h : C0 T M o) : CN M o S0 := by
  obtain ⟨-, h1, h2, h3, h4, h5⟩ := h
  exact ⟨h1, Or.inl ⟨rfl, h4⟩, fun s hs => ⟨(h5 s hs).1, fun hr => absurd hr not_rowH1⟩, ⟨h3, fun j hj => absurd hj (Nat.not_lt_zero j)⟩, fun j hj => h2 j hj⟩
theorem RX_0 {T : TT} {M : MM} {r : Nat} (h : M0 T M r) : RX T M r (r + 29) S0 := by
  have hm := h.mn
  obtain ⟨h1, h2, h3, h4, h5⟩ := h
  refine ⟨⟨hm, fun s hs => ⟨h3 _ (by omega) (by omega) s, fun hr => absurd hr not_rowH1, fun hr => absurd hr (show ¬ (10 : Int) ≤ -1 by omega)⟩, ⟨h5 7 (by decide) (by decide) (by decide) (by decide), fun j hj => absurd hj (Nat.not_lt_zero j)⟩, fun j hj => h3 _ (by omega) (by omega) _⟩, none, none, none, none, ⟨h1, Nat.le_refl _, h2, ⟨fun b e => (by cases e), fun b e => (by cases e), fun b e => (by cases e), fun b e => (by cases e)⟩, ⟨fun b e => (by cases e), fun _ => rfl⟩, fun a b e => (by cases e), fun a b e => (by cases e), fun a b e => (by cases e), fun a b e => (by cases e)⟩, Or.inl ⟨rfl, rfl⟩⟩
theorem CN.low {M M' : MM} {o : Nat} {S : ST} (h : CN M o S) (e : ∀ b, b < o + 83 → M' b = M b) : CN M' o S := h.same (fun a ha => e a (by omega)) (by rw [e o (by omega)]) (by rw [e (o + 63) (by omega)])
theorem RN.hi {M M' : MM} {r : Nat} {S : ST} (h : RN M r S) (e : ∀ b, r ≤ b → M' b = M b) : RN M' r S := by
  obtain ⟨h1, h2, ⟨h3, h4⟩, h5⟩ := h
  refine ⟨h1.same (fun a j ha => by rw [e a (by omega)]), fun s hs => ?_, ⟨by rw [e r (by omega)]; exact h3, fun j hj => by rw [e _ (by omega)]; exact h4 j hj⟩, fun j hj => by rw [e _ (by omega)]; exact h5 j hj⟩
  rw [e (r + 1) (by omega), e (r + 2) (by omega), e (r + 3) (by omega), e (r + 5 + s) (by omega), e (r + 14) (by omega)]
  exact h2 s hs
theorem MT.hi {T T' : TT} {r b : Nat} (h : MT T b) (hb : r ≤ b) (e : ∀ a, r ≤ a → T' a = T a) : MT T' b := h.up (fun a ha _ => by rw [e a (by omega)]; exact ⟨rfl, rfl, fun _ _ _ _ => rfl⟩)
theorem BK.hi {T T' : TT} {r sz : Nat} {y : Option Nat} (h : BK T r sz y) (e : ∀ a, r ≤ a → T' a = T a) : BK T' r sz y := fun b hb => ⟨(h b hb).1.hi (by have := (h b hb).2.1; omega) e, (h b hb).2⟩
theorem RX.hi {T T' : TT} {M M' : MM} {r sz : Nat} {S : ST} (h : RX T M r sz S) (e : ∀ b, r ≤ b → T' b = T b ∧ M' b = M b) : RX T' M' r sz S := by
  obtain ⟨h1, kp, tr, de, dd, ⟨a1, a2, a3, ⟨b1, b2, b3, b4⟩, ⟨c1, c2⟩, d1⟩, hk⟩ := h
  have eT : ∀ b, r ≤ b → T' b = T b := fun b hb => (e b hb).1
  refine ⟨h1.hi (fun b hb => (e b hb).2), kp, tr, de, dd, ⟨a1.hi (Nat.le_refl _) eT, a2, by rw [eT r (Nat.le_refl _)]; exact a3, ⟨b1.hi eT, b2.hi eT, b3.hi eT, b4.hi eT⟩, ⟨fun b hb => by rw [eT b (by have := (b3 b hb).2.1; omega)]; exact c1 b hb, c2⟩, d1⟩, ?_⟩
  rcases hk with hk | ⟨A, b, k1, k2, k3⟩
  · exact Or.inl hk
  · exact Or.inr ⟨A, b, k1, k2, k3.same (fun a j ha => by rw [(e a (by have := (b1 b k2).2.1; omega)).2])⟩
/-- the class at o, the reference right behind it, one state -/
def SIM (T : TT) (M : MM) (o sz : Nat) (S : ST) : Prop := CT T o ∧ CN M o S ∧ RX T M (o + 83) sz S
theorem simC {o sz : Nat} {T : TT} {M : MM} {Q : MVal → TT → MM → Nat → Prop} {S : ST} {a : Int × ST} (h : SIM T M o sz S) (k : ∀ T' M', CT T' o → CN M' o a.2 → RX T' M' (o + 83) sz S → Q (vI a.1) T' M' sz) : CQ o T M sz Q a :=
  fun T' M' h1 h2 h3 => k T' M' h1 h2 (h.2.2.hi (fun b hb => h3 b (Or.inr hb)))
theorem simR {o sz : Nat} {T : TT} {M : MM} {Q : MVal → TT → MM → Nat → Prop} {S : ST} {a : Int × ST} (hC : CT T o) (hN : CN M o a.2) (hX : RX T M (o + 83) sz S) (hK : a.2.K = S.K) (k : ∀ M', SIM T M' o sz a.2 → Q (vI a.1) T M' sz) : RQ (o + 83) T M sz Q a :=
  fun M' h1 h2 => k M' ⟨hC, hN.low (fun b hb => h2 b (Or.inl hb)), hX.rq hK h1 h2⟩
theorem simX {o sz : Nat} {T : TT} {M : MM} {Q : MVal → TT → MM → Nat → Prop} {a : Int × ST} (hC : CT T o) (hN : CN M o a.2) (k : ∀ T' M' sz', SIM T' M' o sz' a.2 → Q (vI a.1) T' M' sz') : RQX (o + 83) T M sz Q a :=
  fun T' M' sz' h1 h2 => k T' M' sz' ⟨hC.mono (fun b _ hb => (h2 b hb).1), hN.low (fun b hb => (h2 b hb).2), h1⟩
