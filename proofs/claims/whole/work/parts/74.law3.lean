set_option maxHeartbeats 4000000 in
theorem lp_law {g : WG} {x : CX} {b L : Nat} {X : Nat → Int} {o : Nat} (hx : OKx g x RL cL_law 20) (hS : SCR g x b L X) (hR : ∀ ls T M sz nc ns, Jd g x 1750 ls [vI 1] T M sz nc ns) (n i kk : Nat) {T : TT} {M : MM} {sz : Nat} {S : ST} (hib : i ≤ 3072) (hin : L < i + 6 * n + 6) (hk : kk + n < 1000000) (hs : SIM T M o sz S) (hw : WFn kk S) : Jd g x 18 [vR (b), vR (o), vR (o + 83), vI (((i : Nat) : Int))] [] T M sz (261 * n) (6993 * n) := by
  have hL := hS.l
  refine J_iload_n hx dL_law_18 (i := 3) rfl rfl ?_
  refine J_aload_n hx dL_law_19 (i := 0) rfl rfl ?_
  refine J_slen hx hS dL_law_20 ?_
  refine J_bipush (v := 6) hx dL_law_21 (by decide) ?_
  refine J_isub (v := ((L : Nat) : Int) - 6) hx dL_law_23 (w32_id (by omega) (by omega)) ?_
  refine J_icmp_gt (tgt := 1749) hx dL_law_24 (by decide) (fun c1 => ?_) (fun c1 => ?_)
  · refine J_iconst (v := 1) hx dL_law_1749 (by decide) ?_
    exact hR _ _ _ _ _ _
  have hi : i + 6 ≤ L := by omega
  obtain ⟨n, rfl⟩ : ∃ n9, n = n9 + 1 := ⟨n - 1, by omega⟩
  have hK : ∀ T' M' sz' S', SIM T' M' o sz' S' → WFn (kk + 1) S' → Jd g x 1743 [vR (b), vR (o), vR (o + 83), vI (((i : Nat) : Int))] [] T' M' sz' (261 * n) (6993 * n) := fun T' M' sz' S' h8 h9 => by
    refine J_iinc (v := ((i + 6 : Nat) : Int)) (lsn := [vR b, vR o, vR (o + 83), vI ((i + 6 : Nat) : Int)]) hx dL_law_1743 rfl ((jinc6 (a := ((i : Nat) : Int)) (by omega) (by omega)).trans (by omega)) rfl rfl ?_
    refine J_goto (tgt := 18) hx dL_law_1746 (by decide) ?_
    exact lp_law hx hS hR n (i + 6) (kk + 1) (by omega) (by omega) (by omega) h8 h9
  rw [show 261 * (n + 1) = 261 + 261 * n by omega, show 6993 * (n + 1) = 6993 + 6993 * n by omega]
  refine J_aload_n hx dL_law_27 (i := 0) rfl rfl ?_
  refine J_iload_n hx dL_law_28 (i := 3) rfl rfl ?_
  refine J_sld hx hS i dL_law_29 rfl (by omega) ?_
  refine J_bipush (v := 63) hx dL_law_30 (by decide) ?_
  refine J_iand (v := jand (X i) 63) hx dL_law_32 rfl ?_
  generalize jand (X i) 63 = a
  by_cases hin2 : 0 ≤ a ∧ a ≤ 51
  · have h0 := hin2.1
    rcases (show a = 0 ∨ 1 ≤ a by omega) with e | h1
    · refine J_tswIn (tgt := 256) (off := 223) hx dL_law_33 (by omega) (by omega) (by rw [e]; rfl) (by decide) ?_
      exact lc_row hx hS hi hs hw (by omega) hK
    clear h0
    rcases (show a = 1 ∨ 2 ≤ a by omega) with e | h2
    · refine J_tswIn (tgt := 299) (off := 266) hx dL_law_33 (by omega) (by omega) (by rw [e]; rfl) (by decide) ?_
      exact lc_set hx hS hi hs hw (by omega) hK
    clear h1
    rcases (show a = 2 ∨ 3 ≤ a by omega) with e | h3
    · refine J_tswIn (tgt := 372) (off := 339) hx dL_law_33 (by omega) (by omega) (by rw [e]; rfl) (by decide) ?_
      exact lc_copy hx hS hi hs hw (by omega) hK
    clear h2
    rcases (show a = 3 ∨ 4 ≤ a by omega) with e | h4
    · refine J_tswIn (tgt := 435) (off := 402) hx dL_law_33 (by omega) (by omega) (by rw [e]; rfl) (by decide) ?_
      exact lc_element hx hS hi hs hw (by omega) hK
    clear h3
    rcases (show a = 4 ∨ 5 ≤ a by omega) with e | h5
    · refine J_tswIn (tgt := 469) (off := 436) hx dL_law_33 (by omega) (by omega) (by rw [e]; rfl) (by decide) ?_
      exact lc_holds hx hS hi hs hw (by omega) hK
    clear h4
    rcases (show a = 5 ∨ 6 ≤ a by omega) with e | h6
    · refine J_tswIn (tgt := 492) (off := 459) hx dL_law_33 (by omega) (by omega) (by rw [e]; rfl) (by decide) ?_
      exact lc_show hx hS hi hs hw (by omega) hK
    clear h5
    rcases (show a = 6 ∨ 7 ≤ a by omega) with e | h7
    · refine J_tswIn (tgt := 525) (off := 492) hx dL_law_33 (by omega) (by omega) (by rw [e]; rfl) (by decide) ?_
      exact lc_says hx hS hi hs hw (by omega) hK
    clear h6
    rcases (show a = 7 ∨ 8 ≤ a by omega) with e | h8
    · refine J_tswIn (tgt := 558) (off := 525) hx dL_law_33 (by omega) (by omega) (by rw [e]; rfl) (by decide) ?_
      exact lc_one hx hS hi hs hw (by omega) hK
    clear h7
    rcases (show a = 8 ∨ 9 ≤ a by omega) with e | h9
    · refine J_tswIn (tgt := 621) (off := 588) hx dL_law_33 (by omega) (by omega) (by rw [e]; rfl) (by decide) ?_
      exact lc_tell hx hS hi hs hw (by omega) hK
    clear h8
    rcases (show a = 9 ∨ 10 ≤ a by omega) with e | h10
    · refine J_tswIn (tgt := 664) (off := 631) hx dL_law_33 (by omega) (by omega) (by rw [e]; rfl) (by decide) ?_
      exact lc_ask hx hS hi hs hw (by omega) hK
    clear h9
    rcases (show a = 10 ∨ 11 ≤ a by omega) with e | h11
    · refine J_tswIn (tgt := 697) (off := 664) hx dL_law_33 (by omega) (by omega) (by rw [e]; rfl) (by decide) ?_
      exact lc_feed hx hS hi hs hw (by omega) hK
    clear h10
    rcases (show a = 11 ∨ 12 ≤ a by omega) with e | h12
    · refine J_tswIn (tgt := 720) (off := 687) hx dL_law_33 (by omega) (by omega) (by rw [e]; rfl) (by decide) ?_
      exact lc_wipe hx hS hi hs hw (by omega) hK
    clear h11
    rcases (show a = 12 ∨ 13 ≤ a by omega) with e | h13
    · refine J_tswIn (tgt := 733) (off := 700) hx dL_law_33 (by omega) (by omega) (by rw [e]; rfl) (by decide) ?_
      exact lc_yard hx hS hi hs hw (by omega) hK
    clear h12
    rcases (show a = 13 ∨ 14 ≤ a by omega) with e | h14
    · refine J_tswIn (tgt := 746) (off := 713) hx dL_law_33 (by omega) (by omega) (by rw [e]; rfl) (by decide) ?_
      exact lc_oneOf hx hS hi hs hw (by omega) hK
    clear h13
    rcases (show a = 14 ∨ 15 ≤ a by omega) with e | h15
    · refine J_tswIn (tgt := 779) (off := 746) hx dL_law_33 (by omega) (by omega) (by rw [e]; rfl) (by decide) ?_
      exact lc_chainOf hx hS hi hs hw (by omega) hK
    clear h14
    rcases (show a = 15 ∨ 16 ≤ a by omega) with e | h16
    · refine J_tswIn (tgt := 812) (off := 779) hx dL_law_33 (by omega) (by omega) (by rw [e]; rfl) (by decide) ?_
      exact lc_strength hx hS hi hs hw (by omega) hK
    clear h15
    rcases (show a = 16 ∨ 17 ≤ a by omega) with e | h17
    · refine J_tswIn (tgt := 845) (off := 812) hx dL_law_33 (by omega) (by omega) (by rw [e]; rfl) (by decide) ?_
      exact lc_weakest hx hS hi hs hw (by omega) hK
    clear h16
    rcases (show a = 17 ∨ 18 ≤ a by omega) with e | h18
    · refine J_tswIn (tgt := 868) (off := 835) hx dL_law_33 (by omega) (by omega) (by rw [e]; rfl) (by decide) ?_
      exact lc_strongest hx hS hi hs hw (by omega) hK
    clear h17
    rcases (show a = 18 ∨ 19 ≤ a by omega) with e | h19
    · refine J_tswIn (tgt := 891) (off := 858) hx dL_law_33 (by omega) (by omega) (by rw [e]; rfl) (by decide) ?_
      exact lc_hardest hx hS hi hs hw (by omega) hK
    clear h18
    rcases (show a = 19 ∨ 20 ≤ a by omega) with e | h20
    · refine J_tswIn (tgt := 914) (off := 881) hx dL_law_33 (by omega) (by omega) (by rw [e]; rfl) (by decide) ?_
      exact lc_odds hx hS hi hs hw (by omega) hK
    clear h19
    rcases (show a = 20 ∨ 21 ≤ a by omega) with e | h21
    · refine J_tswIn (tgt := 947) (off := 914) hx dL_law_33 (by omega) (by omega) (by rw [e]; rfl) (by decide) ?_
      exact lc_at hx hS hi hs hw (by omega) hK
    clear h20
    rcases (show a = 21 ∨ 22 ≤ a by omega) with e | h22
    · refine J_tswIn (tgt := 970) (off := 937) hx dL_law_33 (by omega) (by omega) (by rw [e]; rfl) (by decide) ?_
      exact lc_take hx hS hi hs hw (by omega) hK
    clear h21
    rcases (show a = 22 ∨ 23 ≤ a by omega) with e | h23
    · refine J_tswIn (tgt := 993) (off := 960) hx dL_law_33 (by omega) (by omega) (by rw [e]; rfl) (by decide) ?_
      exact lc_call hx hS hi hs hw (by omega) hK
    clear h22
    rcases (show a = 23 ∨ 24 ≤ a by omega) with e | h24
    · refine J_tswIn (tgt := 1006) (off := 973) hx dL_law_33 (by omega) (by omega) (by rw [e]; rfl) (by decide) ?_
      exact lc_won hx hS hi hs hw (by omega) hK
    clear h23
    rcases (show a = 24 ∨ 25 ≤ a by omega) with e | h25
    · refine J_tswIn (tgt := 1019) (off := 986) hx dL_law_33 (by omega) (by omega) (by rw [e]; rfl) (by decide) ?_
      exact lc_over hx hS hi hs hw (by omega) hK
    clear h24
    rcases (show a = 25 ∨ 26 ≤ a by omega) with e | h26
    · refine J_tswIn (tgt := 1032) (off := 999) hx dL_law_33 (by omega) (by omega) (by rw [e]; rfl) (by decide) ?_
      exact lc_play hx hS hi hs hw (by omega) hK
    clear h25
    rcases (show a = 26 ∨ 27 ≤ a by omega) with e | h27
    · refine J_tswIn (tgt := 1065) (off := 1032) hx dL_law_33 (by omega) (by omega) (by rw [e]; rfl) (by decide) ?_
      exact lc_stand hx hS hi hs hw (by omega) hK
    clear h26
    rcases (show a = 27 ∨ 28 ≤ a by omega) with e | h28
    · refine J_tswIn (tgt := 1098) (off := 1065) hx dL_law_33 (by omega) (by omega) (by rw [e]; rfl) (by decide) ?_
      exact lc_worth hx hS hi hs hw (by omega) hK
    clear h27
    rcases (show a = 28 ∨ 29 ≤ a by omega) with e | h29
    · refine J_tswIn (tgt := 1121) (off := 1088) hx dL_law_33 (by omega) (by omega) (by rw [e]; rfl) (by decide) ?_
      exact lc_move hx hS hi hs hw (by omega) hK
    clear h28
    rcases (show a = 29 ∨ 30 ≤ a by omega) with e | h30
    · refine J_tswIn (tgt := 1154) (off := 1121) hx dL_law_33 (by omega) (by omega) (by rw [e]; rfl) (by decide) ?_
      exact lc_pair hx hS hi hs hw (by omega) hK
    clear h29
    rcases (show a = 30 ∨ 31 ≤ a by omega) with e | h31
    · refine J_tswIn (tgt := 1167) (off := 1134) hx dL_law_33 (by omega) (by omega) (by rw [e]; rfl) (by decide) ?_
      exact lc_tiredest hx hS hi hs hw (by omega) hK
    clear h30
    rcases (show a = 31 ∨ 32 ≤ a by omega) with e | h32
    · refine J_tswIn (tgt := 1180) (off := 1147) hx dL_law_33 (by omega) (by omega) (by rw [e]; rfl) (by decide) ?_
      exact lc_spreadFor hx hS hi hs hw (by omega) hK
    clear h31
    rcases (show a = 32 ∨ 33 ≤ a by omega) with e | h33
    · refine J_tswIn (tgt := 1213) (off := 1180) hx dL_law_33 (by omega) (by omega) (by rw [e]; rfl) (by decide) ?_
      exact lc_yardsFor hx hS hi hs hw (by omega) hK
    clear h32
    rcases (show a = 33 ∨ 34 ≤ a by omega) with e | h34
    · refine J_tswIn (tgt := 1246) (off := 1213) hx dL_law_33 (by omega) (by omega) (by rw [e]; rfl) (by decide) ?_
      exact lc_leads hx hS hi hs hw (by omega) hK
    clear h33
    rcases (show a = 34 ∨ 35 ≤ a by omega) with e | h35
    · refine J_tswIn (tgt := 1269) (off := 1236) hx dL_law_33 (by omega) (by omega) (by rw [e]; rfl) (by decide) ?_
      exact lc_game hx hS hi hs hw (by omega) hK
    clear h34
    rcases (show a = 35 ∨ 36 ≤ a by omega) with e | h36
    · refine J_tswIn (tgt := 1292) (off := 1259) hx dL_law_33 (by omega) (by omega) (by rw [e]; rfl) (by decide) ?_
      exact lc_first hx hS hi hs hw (by omega) hK
    clear h35
    rcases (show a = 36 ∨ 37 ≤ a by omega) with e | h37
    · refine J_tswIn (tgt := 1315) (off := 1282) hx dL_law_33 (by omega) (by omega) (by rw [e]; rfl) (by decide) ?_
      exact lc_together hx hS hi hs hw (by omega) hK
    clear h36
    rcases (show a = 37 ∨ 38 ≤ a by omega) with e | h38
    · refine J_tswIn (tgt := 1338) (off := 1305) hx dL_law_33 (by omega) (by omega) (by rw [e]; rfl) (by decide) ?_
      exact lc_swap hx hS hi hs hw (by omega) hK
    clear h37
    rcases (show a = 38 ∨ 39 ≤ a by omega) with e | h39
    · refine J_tswIn (tgt := 1371) (off := 1338) hx dL_law_33 (by omega) (by omega) (by rw [e]; rfl) (by decide) ?_
      exact lc_could hx hS hi hs hw (by omega) hK
    clear h38
    rcases (show a = 39 ∨ 40 ≤ a by omega) with e | h40
    · refine J_tswIn (tgt := 1404) (off := 1371) hx dL_law_33 (by omega) (by omega) (by rw [e]; rfl) (by decide) ?_
      exact lc_judge hx hS hi hs hw (by omega) hK
    clear h39
    rcases (show a = 40 ∨ 41 ≤ a by omega) with e | h41
    · refine J_tswIn (tgt := 1437) (off := 1404) hx dL_law_33 (by omega) (by omega) (by rw [e]; rfl) (by decide) ?_
      exact lc_behind hx hS hi hs hw (by omega) hK
    clear h40
    rcases (show a = 41 ∨ 42 ≤ a by omega) with e | h42
    · refine J_tswIn (tgt := 1480) (off := 1447) hx dL_law_33 (by omega) (by omega) (by rw [e]; rfl) (by decide) ?_
      exact lc_booked hx hS hi hs hw (by omega) hK
    clear h41
    rcases (show a = 42 ∨ 43 ≤ a by omega) with e | h43
    · refine J_tswIn (tgt := 1513) (off := 1480) hx dL_law_33 (by omega) (by omega) (by rw [e]; rfl) (by decide) ?_
      exact lc_order hx hS hi hs hw (by omega) hK
    clear h42
    rcases (show a = 43 ∨ 44 ≤ a by omega) with e | h44
    · refine J_tswIn (tgt := 1546) (off := 1513) hx dL_law_33 (by omega) (by omega) (by rw [e]; rfl) (by decide) ?_
      exact lc_best hx hS hi hs hw (by omega) hK
    clear h43
    rcases (show a = 44 ∨ 45 ≤ a by omega) with e | h45
    · refine J_tswIn (tgt := 1569) (off := 1536) hx dL_law_33 (by omega) (by omega) (by rw [e]; rfl) (by decide) ?_
      exact lc_run hx hS hi hs hw (by omega) hK
    clear h44
    rcases (show a = 45 ∨ 46 ≤ a by omega) with e | h46
    · refine J_tswIn (tgt := 1612) (off := 1579) hx dL_law_33 (by omega) (by omega) (by rw [e]; rfl) (by decide) ?_
      exact lc_runs hx hS hi hs hw (by omega) hK
    clear h45
    rcases (show a = 46 ∨ 47 ≤ a by omega) with e | h47
    · refine J_tswIn (tgt := 1635) (off := 1602) hx dL_law_33 (by omega) (by omega) (by rw [e]; rfl) (by decide) ?_
      exact lc_rest hx hS hi hs hw (by omega) hK
    clear h46
    rcases (show a = 47 ∨ 48 ≤ a by omega) with e | h48
    · refine J_tswIn (tgt := 1658) (off := 1625) hx dL_law_33 (by omega) (by omega) (by rw [e]; rfl) (by decide) ?_
      exact lc_again hx hS hi hs hw (by omega) hK
    clear h47
    rcases (show a = 48 ∨ 49 ≤ a by omega) with e | h49
    · refine J_tswIn (tgt := 1671) (off := 1638) hx dL_law_33 (by omega) (by omega) (by rw [e]; rfl) (by decide) ?_
      exact lc_seed hx hS hi hs hw (by omega) hK
    clear h48
    rcases (show a = 49 ∨ 50 ≤ a by omega) with e | h50
    · refine J_tswIn (tgt := 1694) (off := 1661) hx dL_law_33 (by omega) (by omega) (by rw [e]; rfl) (by decide) ?_
      exact lc_image hx hS hi hs hw (by omega) hK
    clear h49
    rcases (show a = 50 ∨ 51 ≤ a by omega) with e | h51
    · refine J_tswIn (tgt := 1707) (off := 1674) hx dL_law_33 (by omega) (by omega) (by rw [e]; rfl) (by decide) ?_
      exact lc_back hx hS hi hs hw (by omega) hK
    clear h50
    rcases (show a = 51 ∨ 52 ≤ a by omega) with e | h52
    · refine J_tswIn (tgt := 1720) (off := 1687) hx dL_law_33 (by omega) (by omega) (by rw [e]; rfl) (by decide) ?_
      exact lc_status hx hS hi hs hw (by omega) hK
    clear h51
    exfalso; omega
  · refine J_tswOut (tgt := 1743) hx dL_law_33 (by omega) (by decide) ?_
    exact J_weak (hK _ _ _ _ hs hw.up) (by omega) (by omega)
termination_by n
decreasing_by all_goals omega
