theorem lw_retR {p : Program} {l : Launch} {e : Env} {R : Room} {s : State} {m : MethodId} {below : List Frame} {meth : Method} {c : Code} {b : Nat} (hx : p.tables.exec = Jvm.exec) (hb : c.code = code) (hr : meth.sig.returnType = ret) (hlocks : meth.locks = false) {pc : Nat} {H : Heap} {ls : Array Slot} (hdg : decode code pc = .ok (.ireturn, 1)) : W p l e R s m #[Value.ref b] below meth c H [] 600000 7302250 (lw_Z below #[Value.ref b] s) (F0 m pc ls [.int 1]) := by
  intro T hT X
  obtain ⟨fs, hret, hrun, hended, hW, hframe⟩ := X.leave (v := some (.int 1)) (hlocks := hlocks) (fun h => by rw [hr] at h; cases h)
  have hmeth' : T.vm.method? m = some meth := X.method'
  refine ⟨T.setFrames fs, ?_, .returned (some (.int 1)), hrun, hended, rfl, ⟨_, rfl⟩, hW, hframe⟩
  jvm_step X.here [X.here.top, hx, hb, hdg, hmeth', hr, ret, narrow_b1]
  (try refine ⟨rfl, ?_⟩); (try refine ⟨rfl, ?_⟩)
  first | (intro acts; rw [hret _ acts rfl rfl rfl]) | rw [hret _ _ rfl rfl rfl]
  exact Steps.refl _
set_option maxHeartbeats 4000000 in
theorem law_in {g : WG} {x : CX} {b L : Nat} {X : Nat → Int} (hx : OKx g x RL cL_law 20) (hS : SCR g x b L X) (hR : ∀ ls T M sz nc ns, Jd g x 1750 ls [vI 1] T M sz nc ns) {T : TT} {M : MM} {sz : Nat} : Jd g x 0 [vR b, vU, vU, vU] [] T M sz 600000 7302250 := by
  have hL := hS.l
  refine J_weak (nc := 1 + (82 + (1 + (28 + 261 * 512)))) (ns := 10 + (1071 + (38 + (739 + 6993 * 512)))) ?_ (by omega) (by omega)
  refine J_new (N := 10) (nc' := 82 + (1 + (28 + 261 * 512))) (ns' := 1071 + (38 + (739 + 6993 * 512))) hx cl_X6 ⟨_, rfl, rfl, rfl⟩ cl_L_7 (by decide +kernel) dL_law_0 (by decide) rfl rfl ?_
  refine J_dup hx dL_law_3 rfl ?_
  refine J_invI (As := []) (st := [vR sz]) (mc := 82) (ms := 1071) (nc' := 1 + (28 + 261 * 512)) (ns' := 38 + (739 + 6993 * 512)) hx lk_L_9 okX6_init dL_law_4 rfl rfl (Nat.le_of_ble_eq_true rfl) rfl rfl rfl (c_X6_init (r := sz) (by rw [newT_at]) (fun j => by rw [newT_at]) (fun j => newM_at) ?_)
  intro T1 M1 h1 _
  refine J_astore_n (lsn := [vR b, vR sz, vU, vU]) hx dL_law_7 (i := 1) rfl (Nat.le_of_ble_eq_true rfl) rfl rfl ?_
  refine J_new (N := 38) (nc' := 28 + 261 * 512) (ns' := 739 + 6993 * 512) hx cl_X7 ⟨_, rfl, rfl, rfl⟩ cl_L_10 (by decide +kernel) dL_law_8 (by decide) rfl rfl ?_
  refine J_dup hx dL_law_11 rfl ?_
  refine J_invI (As := []) (st := [vR (sz + 83)]) (mc := 28) (ms := 739) (nc' := 261 * 512) (ns' := 6993 * 512) hx lk_L_12 okX7_init dL_law_12 rfl rfl (Nat.le_of_ble_eq_true rfl) rfl rfl rfl (c_X7_init (r := sz + 83) (by rw [newT_at]) (fun j => by rw [newT_at]) (fun j => newM_at) ?_)
  intro T2 M2 h2 hl2
  refine J_astore_n (lsn := [vR b, vR sz, vR (sz + 83), vU]) hx dL_law_15 (i := 2) rfl (Nat.le_of_ble_eq_true rfl) rfl rfl ?_
  refine J_iconst (v := 0) hx dL_law_16 (by decide) ?_
  refine J_istore_n (lsn := [vR b, vR sz, vR (sz + 83), vI 0]) hx dL_law_17 (i := 3) rfl (Nat.le_of_ble_eq_true rfl) rfl rfl ?_
  have hC : CT T2 sz := h1.1.mono (fun a _ h => by rw [(hl2 a h).1, newT_ne (by omega)])
  have hN : CN M2 sz S0 := (CN_0 h1).low (fun a h => by rw [(hl2 a h).2]; exact newM_ne (by omega))
  exact lp_law hx hS hR 512 0 0 (by omega) (by omega) (by omega) ⟨hC, hN, RX_0 h2⟩ S0_wf
set_option maxHeartbeats 4000000 in
theorem whole_start {p : Program} {e : Env} {s : State} {m : MethodId} {below : List Frame} {meth : Method} {c : Code} (l : Launch) {b L : Nat} {xs : Nat → Int32} (hL : L ≤ 3072) (C0 : lw_At p s m meth c b L xs) : W p l e room_1 s m #[Value.ref b] below meth c s.heap [] 0 0 (lw_Z below #[Value.ref b] s) (entryFrame m ([Value.ref b] : List Value).toArray 4) := by
  obtain ⟨g, e1, e2, hK⟩ := k0_of C0
  obtain ⟨hx, hb, hr, hml, hown, hts, hX, hbl, hlocks, hgv⟩ := C0
  refine W_room (R' := rmOf 20 600000 7302250) (Nat.le_of_ble_eq_true rfl) (Nat.le_refl _) (Nat.le_refl _) (Nat.le_of_ble_eq_true rfl) ?_
  rw [lg_entry_eq]
  have hO : OKx g (p, l, e, rmOf 20 600000 7302250, s, m, #[Value.ref b], below, meth, c, lw_Z below #[Value.ref b] s) RL cL_law 20 := ⟨hx, hb, hown, fun w hw => hts w (List.mem_filter.mp hw).1, hK, rfl, rfl⟩
  have hS : SCR g (p, l, e, rmOf 20 600000 7302250, s, m, #[Value.ref b], below, meth, c, lw_Z below #[Value.ref b] s) b L (fun j => (xs j).toInt) := ⟨xs, by rw [e2]; exact hX, by rw [e1]; exact hbl, hL, fun _ => rfl⟩
  refine law_in hO hS ?_ (T := fun _ => (99, 0, fun _ => none)) (M := fun _ _ => 0) (sz := s.heap.size) s.heap [] 0 0 _ [] ⟨rfl, by rw [e1]; exact Nat.le_refl _, fun q _ => by rw [e2], fun a ha => absurd ha (Nat.lt_irrefl 99)⟩ (fun q hq => by cases hq) ?_ rfl (Nat.le_of_ble_eq_true rfl) (Nat.le_of_ble_eq_true rfl)
  · intro ls T M sz nc ns H locs cells slots lsC stC hR hlocs hl hst hc1 hc2
    obtain ⟨z, stC, rfl, ez, hs9⟩ := st_I hst
    have e9 : stC = [] := List.map_eq_nil_iff.mp hs9
    subst e9
    have ez2 : z = 1 := Int32.toInt_inj.mp (by rw [ez]; rfl)
    subst ez2
    refine va_forget (fun q hq => by have h9 := hlocs q hq; rw [e1] at h9; exact h9) ?_
    have hc3 : cells + nc ≤ 600000 := hc1
    have hc4 : slots + ns ≤ 7302250 := hc2
    exact W.widen (k := 600000) (n := 7302250) (by omega) (by omega) (lw_retR hx hb hr hlocks dL_law_1750)
  · show LRep c.maxLocals _ _
    rw [hml]
    exact entRep (vs := [Value.ref b]) (as := [vR b]) rfl (fun v hv => by simp only [List.mem_cons, List.not_mem_nil, or_false] at hv; subst hv; intro h; cases h) (Nat.le_of_ble_eq_true rfl) rfl
