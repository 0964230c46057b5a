def mSlen : MD := (⟨"java/lang/String", "length", "()I"⟩, prog_11_method_54_code, 1, some .int, 0)
theorem okmSlen : MDok mSlen := ⟨by decide +kernel, ⟨by decide +kernel, by decide +kernel, by decide +kernel⟩, by decide, inG (List.mem_of_getElem? (i := 413) (by decide +kernel)) rfl, inG (List.mem_of_getElem? (i := 10) (by decide +kernel)) rfl⟩
def mScod : MD := (⟨"java/lang/String", "coder", "()B"⟩, prog_11_method_152_code, 1, some .byte, 0)
theorem okmScod : MDok mScod := ⟨by decide +kernel, ⟨by decide +kernel, by decide +kernel, by decide +kernel⟩, by decide, inG (List.mem_of_getElem? (i := 417) (by decide +kernel)) rfl, inG (List.mem_of_getElem? (i := 10) (by decide +kernel)) rfl⟩
def mSchr : MD := (⟨"java/lang/String", "charAt", "(I)C"⟩, prog_11_method_56_code, 2, some .char, 1)
theorem okmSchr : MDok mSchr := ⟨by decide +kernel, ⟨by decide +kernel, by decide +kernel, by decide +kernel⟩, by decide, inG (List.mem_of_getElem? (i := 423) (by decide +kernel)) rfl, inG (List.mem_of_getElem? (i := 10) (by decide +kernel)) rfl⟩
def mSlat : MD := (⟨"java/lang/String", "isLatin1", "()Z"⟩, prog_11_method_154_code, 1, some .boolean, 0)
theorem okmSlat : MDok mSlat := ⟨by decide +kernel, ⟨by decide +kernel, by decide +kernel, by decide +kernel⟩, by decide, inG (List.mem_of_getElem? (i := 427) (by decide +kernel)) rfl, inG (List.mem_of_getElem? (i := 10) (by decide +kernel)) rfl⟩
def mLchr : MD := (⟨"java/lang/StringLatin1", "charAt", "([BI)C"⟩, prog_12_method_2_code, 2, some .char, 2)
theorem okmLchr : MDok mLchr := ⟨by decide +kernel, ⟨by decide +kernel, by decide +kernel, by decide +kernel⟩, by decide, inG (List.mem_of_getElem? (i := 430) (by decide +kernel)) rfl, inG (List.mem_of_getElem? (i := 11) (by decide +kernel)) rfl⟩
def mSchk : MD := (⟨"java/lang/String", "checkIndex", "(II)V"⟩, prog_11_method_155_code, 2, none, 2)
theorem okmSchk : MDok mSchk := ⟨by decide +kernel, ⟨by decide +kernel, by decide +kernel, by decide +kernel⟩, by decide, inG (List.mem_of_getElem? (i := 433) (by decide +kernel)) rfl, inG (List.mem_of_getElem? (i := 10) (by decide +kernel)) rfl⟩
def mPchk : MD := (⟨"jdk/internal/util/Preconditions", "checkIndex", "(IILjava/util/function/BiFunction;)I"⟩, prog_15_method_11_code, 3, some .int, 3)
theorem okmPchk : MDok mPchk := ⟨by decide +kernel, ⟨by decide +kernel, by decide +kernel, by decide +kernel⟩, by decide, inG (List.mem_of_getElem? (i := 438) (by decide +kernel)) rfl, inG (List.mem_of_getElem? (i := 12) (by decide +kernel)) rfl⟩
theorem lkS_335 : VLk "java/lang/String" 335 mScod := ⟨inG (List.mem_of_getElem? (i := 414) (by decide +kernel)) rfl, inG (List.mem_of_getElem? (i := 415) (by decide +kernel)) rfl, inG (List.mem_of_getElem? (i := 416) (by decide +kernel)) rfl⟩
theorem lkS_492 : VLk "java/lang/String" 492 mSlat := ⟨inG (List.mem_of_getElem? (i := 424) (by decide +kernel)) rfl, inG (List.mem_of_getElem? (i := 425) (by decide +kernel)) rfl, inG (List.mem_of_getElem? (i := 426) (by decide +kernel)) rfl⟩
theorem lkS_495 : SLk "java/lang/String" 495 mLchr := ⟨inG (List.mem_of_getElem? (i := 428) (by decide +kernel)) rfl, inG (List.mem_of_getElem? (i := 429) (by decide +kernel)) rfl⟩
theorem lkL_9 : SLk "java/lang/StringLatin1" 9 mSchk := ⟨inG (List.mem_of_getElem? (i := 431) (by decide +kernel)) rfl, inG (List.mem_of_getElem? (i := 432) (by decide +kernel)) rfl⟩
theorem lkS_1059 : SLk "java/lang/String" 1059 mPchk := ⟨inG (List.mem_of_getElem? (i := 436) (by decide +kernel)) rfl, inG (List.mem_of_getElem? (i := 437) (by decide +kernel)) rfl⟩
theorem lkT_116 : VLk "ThroughTheChain$Tape" 116 mSlen := ⟨inG (List.mem_of_getElem? (i := 410) (by decide +kernel)) rfl, inG (List.mem_of_getElem? (i := 411) (by decide +kernel)) rfl, inG (List.mem_of_getElem? (i := 412) (by decide +kernel)) rfl⟩
theorem lkT_121 : VLk "ThroughTheChain$Tape" 121 mSchr := ⟨inG (List.mem_of_getElem? (i := 420) (by decide +kernel)) rfl, inG (List.mem_of_getElem? (i := 421) (by decide +kernel)) rfl, inG (List.mem_of_getElem? (i := 422) (by decide +kernel)) rfl⟩
theorem lkM_187 : VLk "ThroughTheChainModel" 187 mSlen := ⟨inG (List.mem_of_getElem? (i := 1144) (by decide +kernel)) rfl, inG (List.mem_of_getElem? (i := 411) (by decide +kernel)) rfl, inG (List.mem_of_getElem? (i := 412) (by decide +kernel)) rfl⟩
theorem lkM_193 : VLk "ThroughTheChainModel" 193 mSchr := ⟨inG (List.mem_of_getElem? (i := 1145) (by decide +kernel)) rfl, inG (List.mem_of_getElem? (i := 421) (by decide +kernel)) rfl, inG (List.mem_of_getElem? (i := 422) (by decide +kernel)) rfl⟩
theorem flS_9 : Cond.fieldLink "java/lang/String" 9 "java/lang/String" "value" "[B" ∈ tblG := inG (List.mem_of_getElem? (i := 1442) (by decide +kernel)) rfl
theorem flS_15 : Cond.fieldLink "java/lang/String" 15 "java/lang/String" "coder" "B" ∈ tblG := inG (List.mem_of_getElem? (i := 1443) (by decide +kernel)) rfl
theorem flS_38 : Cond.fieldLink "java/lang/String" 38 "java/lang/String" "COMPACT_STRINGS" "Z" ∈ tblG := inG (List.mem_of_getElem? (i := 418) (by decide +kernel)) rfl
theorem flS_1053 : Cond.fieldLink "java/lang/String" 1053 "jdk/internal/util/Preconditions" "SIOOBE_FORMATTER" "Ljava/util/function/BiFunction;" ∈ tblG := inG (List.mem_of_getElem? (i := 434) (by decide +kernel)) rfl
theorem d11_method_54_code_0 : decode prog_11_method_54_code 0 = .ok (.aload_n 0, 1) := by decide +kernel
theorem d11_method_54_code_1 : decode prog_11_method_54_code 1 = .ok (.getfield 9, 3) := by decide +kernel
theorem d11_method_54_code_4 : decode prog_11_method_54_code 4 = .ok (.arraylength, 1) := by decide +kernel
theorem d11_method_54_code_5 : decode prog_11_method_54_code 5 = .ok (.aload_n 0, 1) := by decide +kernel
theorem d11_method_54_code_6 : decode prog_11_method_54_code 6 = .ok (.invokevirtual 335, 3) := by decide +kernel
theorem d11_method_54_code_9 : decode prog_11_method_54_code 9 = .ok (.ishr, 1) := by decide +kernel
theorem d11_method_54_code_10 : decode prog_11_method_54_code 10 = .ok (.ireturn, 1) := by decide +kernel
theorem d11_method_152_code_0 : decode prog_11_method_152_code 0 = .ok (.getstatic 38, 3) := by decide +kernel
theorem d11_method_152_code_3 : decode prog_11_method_152_code 3 = .ok (.ifCond .eq 10, 3) := by decide +kernel
theorem d11_method_152_code_6 : decode prog_11_method_152_code 6 = .ok (.aload_n 0, 1) := by decide +kernel
theorem d11_method_152_code_7 : decode prog_11_method_152_code 7 = .ok (.getfield 15, 3) := by decide +kernel
theorem d11_method_152_code_10 : decode prog_11_method_152_code 10 = .ok (.goto 4, 3) := by decide +kernel
theorem d11_method_152_code_13 : decode prog_11_method_152_code 13 = .ok (.iconst 1, 1) := by decide +kernel
theorem d11_method_152_code_14 : decode prog_11_method_152_code 14 = .ok (.ireturn, 1) := by decide +kernel
theorem d11_method_56_code_0 : decode prog_11_method_56_code 0 = .ok (.aload_n 0, 1) := by decide +kernel
theorem d11_method_56_code_1 : decode prog_11_method_56_code 1 = .ok (.invokevirtual 492, 3) := by decide +kernel
theorem d11_method_56_code_4 : decode prog_11_method_56_code 4 = .ok (.ifCond .eq 12, 3) := by decide +kernel
theorem d11_method_56_code_7 : decode prog_11_method_56_code 7 = .ok (.aload_n 0, 1) := by decide +kernel
theorem d11_method_56_code_8 : decode prog_11_method_56_code 8 = .ok (.getfield 9, 3) := by decide +kernel
theorem d11_method_56_code_11 : decode prog_11_method_56_code 11 = .ok (.iload_n 1, 1) := by decide +kernel
theorem d11_method_56_code_12 : decode prog_11_method_56_code 12 = .ok (.invokestatic 495, 3) := by decide +kernel
theorem d11_method_56_code_15 : decode prog_11_method_56_code 15 = .ok (.ireturn, 1) := by decide +kernel
theorem d11_method_154_code_0 : decode prog_11_method_154_code 0 = .ok (.getstatic 38, 3) := by decide +kernel
theorem d11_method_154_code_3 : decode prog_11_method_154_code 3 = .ok (.ifCond .eq 14, 3) := by decide +kernel
theorem d11_method_154_code_6 : decode prog_11_method_154_code 6 = .ok (.aload_n 0, 1) := by decide +kernel
theorem d11_method_154_code_7 : decode prog_11_method_154_code 7 = .ok (.getfield 15, 3) := by decide +kernel
theorem d11_method_154_code_10 : decode prog_11_method_154_code 10 = .ok (.ifCond .ne 7, 3) := by decide +kernel
theorem d11_method_154_code_13 : decode prog_11_method_154_code 13 = .ok (.iconst 1, 1) := by decide +kernel
theorem d11_method_154_code_14 : decode prog_11_method_154_code 14 = .ok (.goto 4, 3) := by decide +kernel
theorem d11_method_154_code_17 : decode prog_11_method_154_code 17 = .ok (.iconst 0, 1) := by decide +kernel
theorem d11_method_154_code_18 : decode prog_11_method_154_code 18 = .ok (.ireturn, 1) := by decide +kernel
theorem d12_method_2_code_0 : decode prog_12_method_2_code 0 = .ok (.iload_n 1, 1) := by decide +kernel
theorem d12_method_2_code_1 : decode prog_12_method_2_code 1 = .ok (.aload_n 0, 1) := by decide +kernel
theorem d12_method_2_code_2 : decode prog_12_method_2_code 2 = .ok (.arraylength, 1) := by decide +kernel
theorem d12_method_2_code_3 : decode prog_12_method_2_code 3 = .ok (.invokestatic 9, 3) := by decide +kernel
theorem d12_method_2_code_6 : decode prog_12_method_2_code 6 = .ok (.aload_n 0, 1) := by decide +kernel
theorem d12_method_2_code_7 : decode prog_12_method_2_code 7 = .ok (.iload_n 1, 1) := by decide +kernel
theorem d12_method_2_code_8 : decode prog_12_method_2_code 8 = .ok (.baload, 1) := by decide +kernel
theorem d12_method_2_code_9 : decode prog_12_method_2_code 9 = .ok (.sipush 255, 3) := by decide +kernel
theorem d12_method_2_code_12 : decode prog_12_method_2_code 12 = .ok (.iand, 1) := by decide +kernel
theorem d12_method_2_code_13 : decode prog_12_method_2_code 13 = .ok (.i2c, 1) := by decide +kernel
theorem d12_method_2_code_14 : decode prog_12_method_2_code 14 = .ok (.ireturn, 1) := by decide +kernel
theorem d11_method_155_code_0 : decode prog_11_method_155_code 0 = .ok (.iload_n 0, 1) := by decide +kernel
theorem d11_method_155_code_1 : decode prog_11_method_155_code 1 = .ok (.iload_n 1, 1) := by decide +kernel
theorem d11_method_155_code_2 : decode prog_11_method_155_code 2 = .ok (.getstatic 1053, 3) := by decide +kernel
theorem d11_method_155_code_5 : decode prog_11_method_155_code 5 = .ok (.invokestatic 1059, 3) := by decide +kernel
theorem d11_method_155_code_8 : decode prog_11_method_155_code 8 = .ok (.pop, 1) := by decide +kernel
theorem d11_method_155_code_9 : decode prog_11_method_155_code 9 = .ok (.return_, 1) := by decide +kernel
theorem d15_method_11_code_0 : decode prog_15_method_11_code 0 = .ok (.iload_n 0, 1) := by decide +kernel
theorem d15_method_11_code_1 : decode prog_15_method_11_code 1 = .ok (.ifCond .lt 8, 3) := by decide +kernel
theorem d15_method_11_code_4 : decode prog_15_method_11_code 4 = .ok (.iload_n 0, 1) := by decide +kernel
theorem d15_method_11_code_5 : decode prog_15_method_11_code 5 = .ok (.iload_n 1, 1) := by decide +kernel
theorem d15_method_11_code_6 : decode prog_15_method_11_code 6 = .ok (.if_icmp .lt 10, 3) := by decide +kernel
theorem d15_method_11_code_16 : decode prog_15_method_11_code 16 = .ok (.iload_n 0, 1) := by decide +kernel
theorem d15_method_11_code_17 : decode prog_15_method_11_code 17 = .ok (.ireturn, 1) := by decide +kernel
def wch (w i : Nat) : Int := ((strB.getD w []).getD i 0).toInt
theorem str_len : ∀ w : Fin 7, (Int32.ofNat (strL.getD w 0)).toInt = ((strL.getD w 0 : Nat) : Int) ∧ jshr ((strL.getD w 0 : Nat) : Int) 0 = ((strL.getD w 0 : Nat) : Int) ∧ strL.getD w 0 ≤ 6 ∧ 1 ≤ strL.getD w 0 := by decide +kernel
theorem str_chr : ∀ w : Fin 7, ∀ i : Fin 6, (i : Nat) < strL.getD w 0 → (jand (wch w i) 255 = wch w i ∧ (((strB.getD w []).getD i 0).toUInt32 % 65536).toInt32 = (strB.getD w []).getD i 0 ∧ narrow .char (.int ((strB.getD w []).getD i 0)) = .int ((strB.getD w []).getD i 0) ∧ 97 ≤ wch w i ∧ wch w i ≤ 122) := by decide +kernel
section
variable {g : WG} {x : CX} {own : String} {cc : ByteArray} {d : Nat} {pc : Nat} {ls st : List MVal} {T : TT} {M : MM} {sz nc ns : Nat}
theorem J_ldcS (h : OKx g x own cc d) {i w : Nat} {tx : String} (hd : decode cc pc = .ok (.ldc i, 2)) (hm : (own, i, tx, w) ∈ strW) (k : Jd g x (pc + 2) ls (vR (g.2.2.2.2.1 w) :: st) T M sz nc ns) : Jd g x pc ls st T M sz nc ns := by
  obtain ⟨p, l, e, R, s, m, args, below, meth, c, Q⟩ := x
  obtain ⟨hx, hb, hown, hts, hK, hfr, hlo⟩ := h
  intro H locs cells slots lsC stC hR hlocs hl hs hc1 hc2
  refine va_ldcS hx hb hown (hK.2.2.2.2.2.1 _ hm) hd ?_
  exact k H locs cells slots lsC _ hR hlocs hl (by rw [List.map_cons, hs]; rfl) hc1 hc2
theorem J_gval (h : OKx g x own cc d) {i w : Nat} (hw : w < 7) (hF : Cond.fieldLink own i "java/lang/String" "value" "[B" ∈ tblG) (hd : decode cc pc = .ok (.getfield i, 3)) (k : Jd g x (pc + 3) ls (vR (g.2.2.2.2.2 w) :: st) T M sz nc ns) : Jd g x pc ls (vR (g.2.2.2.2.1 w) :: st) T M sz nc ns := by
  obtain ⟨p, l, e, R, s, m, args, below, meth, c, Q⟩ := x
  obtain ⟨hx, hb, hown, hts, hK, hfr, hlo⟩ := h
  intro H locs cells slots lsC stC hR hlocs hl hs hc1 hc2
  obtain ⟨stC, rfl, hs9⟩ := st_R hs; replace hs := hs9; clear hs9
  obtain ⟨cf, k0, fi, f, cell, h1, h2, h3, h4, h5, h6⟩ := (hK.2.2.2.2.2.2.1.1 w hw).2.2.1
  have hc : H[g.2.2.2.2.1 w]? = some cell := by rw [hR.2.2.1 _ (Nat.lt_of_not_le h6)]; exact h3
  refine W.getf hx hb hown (hts _ hF) h1 h2 hc h4 h5 rfl rfl hd ?_
  exact k H locs cells slots lsC _ hR hlocs hl (by rw [List.map_cons, hs]; rfl) hc1 hc2
theorem J_gcod (h : OKx g x own cc d) {i w : Nat} (hw : w < 7) (hF : Cond.fieldLink own i "java/lang/String" "coder" "B" ∈ tblG) (hd : decode cc pc = .ok (.getfield i, 3)) (k : Jd g x (pc + 3) ls (vI 0 :: st) T M sz nc ns) : Jd g x pc ls (vR (g.2.2.2.2.1 w) :: st) T M sz nc ns := by
  obtain ⟨p, l, e, R, s, m, args, below, meth, c, Q⟩ := x
  obtain ⟨hx, hb, hown, hts, hK, hfr, hlo⟩ := h
  intro H locs cells slots lsC stC hR hlocs hl hs hc1 hc2
  obtain ⟨stC, rfl, hs9⟩ := st_R hs; replace hs := hs9; clear hs9
  obtain ⟨cf, k0, fi, f, cell, h1, h2, h3, h4, h5, h6⟩ := (hK.2.2.2.2.2.2.1.1 w hw).2.1
  have hc : H[g.2.2.2.2.1 w]? = some cell := by rw [hR.2.2.1 _ (Nat.lt_of_not_le h6)]; exact h3
  refine W.getf hx hb hown (hts _ hF) h1 h2 hc h4 h5 rfl rfl hd ?_
  exact k H locs cells slots lsC _ hR hlocs hl (by rw [List.map_cons, hs]; rfl) hc1 hc2
theorem J_alenS (h : OKx g x own cc d) {w : Nat} (hw : w < 7) (hd : decode cc pc = .ok (.arraylength, 1)) (k : Jd g x (pc + 1) ls (vI ((strL.getD w 0 : Nat) : Int) :: st) T M sz nc ns) : Jd g x pc ls (vR (g.2.2.2.2.2 w) :: st) T M sz nc ns := by
  obtain ⟨p, l, e, R, s, m, args, below, meth, c, Q⟩ := x
  obtain ⟨hx, hb, hown, hts, hK, hfr, hlo⟩ := h
  intro H locs cells slots lsC stC hR hlocs hl hs hc1 hc2
  obtain ⟨stC, rfl, hs9⟩ := st_R hs; replace hs := hs9; clear hs9
  obtain ⟨cell, h1, h2, h3, h4, h5, h6, h7⟩ := (hK.2.2.2.2.2.2.1.1 w hw).2.2.2
  have hc : H[g.2.2.2.2.2 w]? = some cell := by rw [hR.2.2.1 _ (Nat.lt_of_not_le h7)]; exact h1
  refine W.alen (n := Int32.ofNat (strL.getD w 0)) hx hb hc h2 h5 rfl rfl hd ?_
  exact k H locs cells slots lsC _ hR hlocs hl (by rw [List.map_cons, hs]; congr 1; exact congrArg vI (str_len ⟨w, hw⟩).1) hc1 hc2
theorem J_baldS (h : OKx g x own cc d) {w i : Nat} (hw : w < 7) (hi : i < strL.getD w 0) (hd : decode cc pc = .ok (.baload, 1)) (k : Jd g x (pc + 1) ls (vI (wch w i) :: st) T M sz nc ns) : Jd g x pc ls (vI ((i : Nat) : Int) :: vR (g.2.2.2.2.2 w) :: st) T M sz nc ns := by
  obtain ⟨p, l, e, R, s, m, args, below, meth, c, Q⟩ := x
  obtain ⟨hx, hb, hown, hts, hK, hfr, hlo⟩ := h
  intro H locs cells slots lsC stC hR hlocs hl hs hc1 hc2
  obtain ⟨z, stC, rfl, ez, hs⟩ := st_I hs
  obtain ⟨stC, rfl, hs9⟩ := st_R hs; replace hs := hs9; clear hs9
  obtain ⟨cell, h1, h2, h3, h4, h5, h6, h7⟩ := (hK.2.2.2.2.2.2.1.1 w hw).2.2.2
  have hc : H[g.2.2.2.2.2 w]? = some cell := by rw [hR.2.2.1 _ (Nat.lt_of_not_le h7)]; exact h1
  obtain ⟨hin, hcl⟩ := in_of (N := strL.getD w 0) ez rfl hi
  refine W.bald (v := .int ((strB.getD w []).getD i 0)) hx hb hc h2 h3 (fun q => q.elim (fun q => hin (Or.inl q)) (fun q => by omega)) (by rw [hcl]; exact h6 i hi) rfl rfl hd ?_
  exact k H locs cells slots lsC _ hR hlocs hl (by rw [List.map_cons, hs]; rfl) hc1 hc2
theorem J_gsC (h : OKx g x own cc d) {i : Nat} (hF : Cond.fieldLink own i "java/lang/String" "COMPACT_STRINGS" "Z" ∈ tblG) (hd : decode cc pc = .ok (.getstatic i, 3)) (k : Jd g x (pc + 3) ls (vI 1 :: st) T M sz nc ns) : Jd g x pc ls st T M sz nc ns := by
  obtain ⟨p, l, e, R, s, m, args, below, meth, c, Q⟩ := x
  obtain ⟨hx, hb, hown, hts, hK, hfr, hlo⟩ := h
  intro H locs cells slots lsC stC hR hlocs hl hs hc1 hc2
  obtain ⟨cf, kf, fi, f, a, cell, h1, h2, h3, h4, h5, h6, h7, h8⟩ := hK.2.2.2.2.1
  have ha : H[a]? = some cell := by rw [hR.2.2.1 a (Nat.lt_of_not_le h8)]; exact h5
  refine W.gets hx hb hown (hts _ hF) h1 h2 h3 h4 ha (fun e => by rw [e] at h6; cases h6) h7 rfl hd ?_
  exact k H locs cells slots lsC _ hR hlocs hl (by show List.map vabs (_ :: stC) = _; rw [List.map_cons, hs]; rfl) hc1 hc2
theorem J_gsF (h : OKx g x own cc d) {i : Nat} (hF : Cond.fieldLink own i "jdk/internal/util/Preconditions" "SIOOBE_FORMATTER" "Ljava/util/function/BiFunction;" ∈ tblG) (hd : decode cc pc = .ok (.getstatic i, 3)) (k1 : Jd g x (pc + 3) ls (vN :: st) T M sz nc ns) (k2 : ∀ t, Jd g x (pc + 3) ls (vR t :: st) T M sz nc ns) : Jd g x pc ls st T M sz nc ns := by
  obtain ⟨p, l, e, R, s, m, args, below, meth, c, Q⟩ := x
  obtain ⟨hx, hb, hown, hts, hK, hfr, hlo⟩ := h
  intro H locs cells slots lsC stC hR hlocs hl hs hc1 hc2
  rcases hK.2.2.2.2.2.2.2 with hz | ⟨t, hz⟩
  · obtain ⟨cf, kf, fi, f, a, cell, h1, h2, h3, h4, h5, h6, h7, h8⟩ := hz
    have ha : H[a]? = some cell := by rw [hR.2.2.1 a (Nat.lt_of_not_le h8)]; exact h5
    refine W.gets hx hb hown (hts _ hF) h1 h2 h3 h4 ha (fun e => by rw [e] at h6; cases h6) h7 rfl hd ?_
    exact k1 H locs cells slots lsC _ hR hlocs hl (by show List.map vabs (_ :: stC) = _; rw [List.map_cons, hs]; rfl) hc1 hc2
  · obtain ⟨cf, kf, fi, f, a, cell, h1, h2, h3, h4, h5, h6, h7, h8⟩ := hz
    have ha : H[a]? = some cell := by rw [hR.2.2.1 a (Nat.lt_of_not_le h8)]; exact h5
    refine W.gets hx hb hown (hts _ hF) h1 h2 h3 h4 ha (fun e => by rw [e] at h6; cases h6) h7 rfl hd ?_
    exact k2 t H locs cells slots lsC _ hR hlocs hl (by show List.map vabs (_ :: stC) = _; rw [List.map_cons, hs]; rfl) hc1 hc2
theorem J_i2c (h : OKx g x own cc d) {a : Int} (hd : decode cc pc = .ok (.i2c, 1)) (hv : ∀ z : Int32, z.toInt = a → (z.toUInt32 % 65536).toInt32 = z) (k : Jd g x (pc + 1) ls (vI a :: st) T M sz nc ns) : Jd g x pc ls (vI a :: st) T M sz nc ns := by
  obtain ⟨p, l, e, R, s, m, args, below, meth, c, Q⟩ := x
  obtain ⟨hx, hb, hown, hts, hK, hfr, hlo⟩ := h
  intro H locs cells slots lsC stC hR hlocs hl hs hc1 hc2
  obtain ⟨z, stC, rfl, ez, hs⟩ := st_I hs
  refine lv_i2c hx hb hd (hv z ez) ?_
  exact k H locs cells slots lsC _ hR hlocs hl (by rw [List.map_cons, hs, ← ez]; rfl) hc1 hc2
theorem J_nret (h : OKx g x own cc d) {Q : MVal → TT → MM → Nat → Prop} {v : Int} {ty : FieldType} (hr : RTx g x (some ty) Q) (hd : decode cc pc = .ok (.ireturn, 1)) (hv : ∀ z : Int32, z.toInt = v → narrow ty (.int z) = .int z) (hq : Q (vI v) T M sz) : Jd g x pc ls [vI v] T M sz nc ns := by
  obtain ⟨p, l, e, R, s, m, args, below, meth, c, Qr⟩ := x
  obtain ⟨hx, hb, hown, hts, hK, -⟩ := h
  obtain ⟨r1, r2, r3⟩ := hr
  dsimp only at r1 r2 r3
  subst r3
  intro H locs cells slots lsC stC hR hlocs hl hs hc1 hc2
  obtain ⟨z, stC, rfl, ez, hs⟩ := st_I hs
  cases List.map_eq_nil_iff.mp hs
  refine W.widen (k := R.cells) (n := R.slots) (Nat.le_trans (Nat.le_add_right _ _) hc1) (Nat.le_trans (Nat.le_add_right _ _) hc2) ?_
  exact W.zret hx hb r1 (hv z ez) (fun t ht hW => ⟨_, T, M, sz, rfl, rfl, by rw [ht]; exact hR, by rw [← ez] at hq; exact hq⟩) hlocs hd r2
/-- a virtual call of a String constant -/
theorem J_invVK (h : OKx g x own cc (d + 1)) {i w : Nat} {μ : MD} {As st0 : List MVal} (hw7 : w < 7) (hL : VLk own i μ) (hM : MDok μ) (hd : decode cc pc = .ok (.invokevirtual i, 3)) (hq : μ.1.cls = "java/lang/String") (hlen : As.length = μ.2.2.2.2) (hst : st0 = As.reverse ++ (vR (g.2.2.2.2.1 w) :: st)) (hw : (st.map vwd).sum ≤ 8) (hret : μ.2.2.2.1.isSome = true)
    (hm : Ct g d μ (vR (g.2.2.2.2.1 w) :: As) T M sz 0 0 (fun v T' M' sz' => Jd g x (pc + 3) ls (v :: st) T' M' sz' nc ns)) : Jd g x pc ls st0 T M sz nc ns := by
  obtain ⟨p, l, e, R, s, m, args, below, meth, c, Qr⟩ := x
  obtain ⟨hx, hb, hown, hts, hK, hfr, hlo⟩ := h
  subst hst
  intro H locs cells slots lsC stC hR hlocs hl hs hc1 hc2
  obtain ⟨vs, rest, rfl, h1, h2, h3⟩ := rev_st hs
  obtain ⟨rest, rfl, h4⟩ := st_R h2
  have hfr' : R.frames = d + 1 := hfr
  have hlo' : R.locals = 40 * (d + 1) := hlo
  have hsum := vwd_sum rest st h4
  have hc1' : cells + nc ≤ R.cells := hc1
  have hc2' : slots + ns ≤ R.slots := hc2
  have cw : CallW R s args own μ.1.cls i μ.1 μ.2.1 μ.2.2.1 μ.2.2.2.1 (wsM μ) (rmOf d 0 0) 0 0 μ.2.2.2.2 := cwV μ.2.2.2.2 hts (fun w hw => by
    unfold wsV at hw
    rcases List.mem_append.mp hw with hw | hw
    · simp only [List.mem_cons, List.not_mem_nil, or_false] at hw
      rcases hw with rfl | rfl | rfl | rfl
      · exact good1 hL.1
      · exact good1 hL.2.1
      · exact good1 hL.2.2
      · exact good1 hM.2.2.2.2
    · exact good_ws hM w hw) rfl rfl rfl ⟨rfl, hM.2.1⟩ ⟨by show d + 1 ≤ _; omega, by show 8 + (μ.2.2.1 + 11) + 40 * d ≤ _; have := hM.2.2.1; omega⟩
  obtain ⟨cell, k1, k2, k3, k4⟩ := (hK.2.2.2.2.2.2.1.1 w hw7).1
  have hc : H[g.2.2.2.2.1 w]? = some cell := by rw [hR.2.2.1 _ (Nat.lt_of_not_le k4)]; exact k1
  refine run_go (g := g) (b := μ.2.2.2.1.isSome) (Q := _) (va_runV (As := vs) (rest := rest) (nL := c.maxLocals) (Ts := tblG) ⟨hx, hb, rfl, hown, hts⟩ (hm l) cw ⟨PcOf.blind, ⟨cell, hc, k2, by rw [hq]; exact k3⟩, fun U hU hW => ⟨by simp [h1]; rfl, by rw [hU]; exact hR, hK.warm hW⟩⟩ rfl (h3.trans hlen) hl.2.1 rfl (by show 2 * 0 + _ ≤ 8; omega) hd ⟨by omega, by omega⟩) hlocs (fun v T' M' sz' H1 locs1 hv hR1 hQ1 hlocs1 => ?_)
  cases v with
  | none => rw [hret] at hv; cases hv
  | some w9 =>
    exact hQ1 H1 locs1 (cells + 0) (slots + 0) lsC _ hR1 hlocs1 hl (by show List.map vabs (w9 :: rest) = _; rw [List.map_cons, h4]; rfl) (by show _ ≤ R.cells; omega) (by show _ ≤ R.slots; omega)
end
section
variable {g : WG} {d : Nat} {T : TT} {M : MM} {sz : Nat} {Q : MVal → TT → MM → Nat → Prop}
theorem c_Scod {w : Nat} (hw : w < 7) (hQ : Q (vI 0) T M sz) : Ct g (d + 1) mScod [vR (g.2.2.2.2.1 w)] T M sz 0 0 Q := by
  refine Ct_of2 (ls := [vR (g.2.2.2.2.1 w)]) okmScod rfl (Nat.le_of_ble_eq_true rfl) rfl ?_
  intro x hx hr hnm
  refine J_gsC hx flS_38 d11_method_152_code_0 ?_
  refine J_if_eq (tgt := 13) hx d11_method_152_code_3 (by decide) (fun c9 => absurd c9 (by decide)) (fun _ => ?_)
  refine J_aload_n hx d11_method_152_code_6 (i := 0) rfl rfl ?_
  refine J_gcod hx hw flS_15 d11_method_152_code_7 ?_
  refine J_goto (tgt := 14) hx d11_method_152_code_10 (by decide) ?_
  exact J_nret hx hr d11_method_152_code_14 (fun z hz => by rw [show z = 0 from Int32.toInt_inj.mp hz]; rfl) hQ
theorem c_Slat {w : Nat} (hw : w < 7) (hQ : Q (vI 1) T M sz) : Ct g (d + 1) mSlat [vR (g.2.2.2.2.1 w)] T M sz 0 0 Q := by
  refine Ct_of2 (ls := [vR (g.2.2.2.2.1 w)]) okmSlat rfl (Nat.le_of_ble_eq_true rfl) rfl ?_
  intro x hx hr hnm
  refine J_gsC hx flS_38 d11_method_154_code_0 ?_
  refine J_if_eq (tgt := 17) hx d11_method_154_code_3 (by decide) (fun c9 => absurd c9 (by decide)) (fun _ => ?_)
  refine J_aload_n hx d11_method_154_code_6 (i := 0) rfl rfl ?_
  refine J_gcod hx hw flS_15 d11_method_154_code_7 ?_
  refine J_if_ne (tgt := 17) hx d11_method_154_code_10 (by decide) (fun c9 => absurd c9 (by decide)) (fun _ => ?_)
  refine J_iconst (v := 1) hx d11_method_154_code_13 (by decide) ?_
  refine J_goto (tgt := 18) hx d11_method_154_code_14 (by decide) ?_
  exact J_zret hx hr d11_method_154_code_18 (Or.inr rfl) hQ
theorem c_Slen {w : Nat} (hw : w < 7) (hQ : Q (vI ((strL.getD w 0 : Nat) : Int)) T M sz) : Ct g (d + 2) mSlen [vR (g.2.2.2.2.1 w)] T M sz 0 0 Q := by
  refine Ct_of2 (ls := [vR (g.2.2.2.2.1 w)]) okmSlen rfl (Nat.le_of_ble_eq_true rfl) rfl ?_
  intro x hx hr hnm
  refine J_aload_n hx d11_method_54_code_0 (i := 0) rfl rfl ?_
  refine J_gval hx hw flS_9 d11_method_54_code_1 ?_
  refine J_alenS hx hw d11_method_54_code_4 ?_
  refine J_aload_n hx d11_method_54_code_5 (i := 0) rfl rfl ?_
  refine J_invVK (As := []) (st := [vI ((strL.getD w 0 : Nat) : Int)]) hx hw lkS_335 okmScod d11_method_54_code_6 rfl rfl rfl (Nat.le_of_ble_eq_true rfl) rfl (c_Scod hw ?_)
  refine J_ishr (v := ((strL.getD w 0 : Nat) : Int)) hx d11_method_54_code_9 (str_len ⟨w, hw⟩).2.1 ?_
  exact J_iret hx hr d11_method_54_code_10 hQ
theorem c_PchkN {i n : Nat} (hi : i < n) (hQ : Q (vI ((i : Nat) : Int)) T M sz) : Ct g (d + 1) mPchk [vI ((i : Nat) : Int), vI ((n : Nat) : Int), vN] T M sz 0 0 Q := by
  refine Ct_of2 (ls := [vI ((i : Nat) : Int), vI ((n : Nat) : Int), vN]) okmPchk rfl (Nat.le_of_ble_eq_true rfl) rfl ?_
  intro x hx hr hnm
  refine J_iload_n hx d15_method_11_code_0 (i := 0) rfl rfl ?_
  refine J_if_lt (tgt := 9) hx d15_method_11_code_1 (by decide) (fun c9 => absurd c9 (by omega)) (fun _ => ?_)
  refine J_iload_n hx d15_method_11_code_4 (i := 0) rfl rfl ?_
  refine J_iload_n hx d15_method_11_code_5 (i := 1) rfl rfl ?_
  refine J_icmp_lt (tgt := 16) hx d15_method_11_code_6 (by decide) (fun _ => ?_) (fun c9 => absurd (show ((i : Nat) : Int) < ((n : Nat) : Int) by omega) c9)
  refine J_iload_n hx d15_method_11_code_16 (i := 0) rfl rfl ?_
  exact J_iret hx hr d15_method_11_code_17 hQ
theorem c_PchkR {i n t : Nat} (hi : i < n) (hQ : Q (vI ((i : Nat) : Int)) T M sz) : Ct g (d + 1) mPchk [vI ((i : Nat) : Int), vI ((n : Nat) : Int), vR t] T M sz 0 0 Q := by
  refine Ct_of2 (ls := [vI ((i : Nat) : Int), vI ((n : Nat) : Int), vR t]) okmPchk rfl (Nat.le_of_ble_eq_true rfl) rfl ?_
  intro x hx hr hnm
  refine J_iload_n hx d15_method_11_code_0 (i := 0) rfl rfl ?_
  refine J_if_lt (tgt := 9) hx d15_method_11_code_1 (by decide) (fun c9 => absurd c9 (by omega)) (fun _ => ?_)
  refine J_iload_n hx d15_method_11_code_4 (i := 0) rfl rfl ?_
  refine J_iload_n hx d15_method_11_code_5 (i := 1) rfl rfl ?_
  refine J_icmp_lt (tgt := 16) hx d15_method_11_code_6 (by decide) (fun _ => ?_) (fun c9 => absurd (show ((i : Nat) : Int) < ((n : Nat) : Int) by omega) c9)
  refine J_iload_n hx d15_method_11_code_16 (i := 0) rfl rfl ?_
  exact J_iret hx hr d15_method_11_code_17 hQ
theorem c_Schk {i n : Nat} (hi : i < n) (hQ : Q vU T M sz) : Ct g (d + 2) mSchk [vI ((i : Nat) : Int), vI ((n : Nat) : Int)] T M sz 0 0 Q := by
  refine Ct_of2 (ls := [vI ((i : Nat) : Int), vI ((n : Nat) : Int)]) okmSchk rfl (Nat.le_of_ble_eq_true rfl) rfl ?_
  intro x hx hr hnm
  refine J_iload_n hx d11_method_155_code_0 (i := 0) rfl rfl ?_
  refine J_iload_n hx d11_method_155_code_1 (i := 1) rfl rfl ?_
  refine J_gsF hx flS_1053 d11_method_155_code_2 ?_ (fun t => ?_)
  · refine J_invS (As := [vI ((i : Nat) : Int), vI ((n : Nat) : Int), vN]) (st := []) hx lkS_1059 okmPchk d11_method_155_code_5 rfl rfl (Nat.le_of_ble_eq_true rfl) (Nat.zero_add _).symm (Nat.zero_add _).symm rfl (c_PchkN hi ?_)
    refine J_pop hx d11_method_155_code_8 rfl ?_
    exact J_vret hx hr d11_method_155_code_9 hQ
  · refine J_invS (As := [vI ((i : Nat) : Int), vI ((n : Nat) : Int), vR t]) (st := []) hx lkS_1059 okmPchk d11_method_155_code_5 rfl rfl (Nat.le_of_ble_eq_true rfl) (Nat.zero_add _).symm (Nat.zero_add _).symm rfl (c_PchkR hi ?_)
    refine J_pop hx d11_method_155_code_8 rfl ?_
    exact J_vret hx hr d11_method_155_code_9 hQ
theorem wch_z {w i : Nat} {z : Int32} (hz : z.toInt = wch w i) : z = (strB.getD w []).getD i 0 := Int32.toInt_inj.mp hz
theorem c_Lchr {w i : Nat} (hw : w < 7) (hi : i < strL.getD w 0) (hQ : Q (vI (wch w i)) T M sz) : Ct g (d + 3) mLchr [vR (g.2.2.2.2.2 w), vI ((i : Nat) : Int)] T M sz 0 0 Q := by
  have h6 := (str_len ⟨w, hw⟩).2.2.1
  have hs := str_chr ⟨w, hw⟩ ⟨i, Nat.lt_of_lt_of_le hi h6⟩ hi
  refine Ct_of2 (ls := [vR (g.2.2.2.2.2 w), vI ((i : Nat) : Int)]) okmLchr rfl (Nat.le_of_ble_eq_true rfl) rfl ?_
  intro x hx hr hnm
  refine J_iload_n hx d12_method_2_code_0 (i := 1) rfl rfl ?_
  refine J_aload_n hx d12_method_2_code_1 (i := 0) rfl rfl ?_
  refine J_alenS hx hw d12_method_2_code_2 ?_
  refine J_invSv (As := [vI ((i : Nat) : Int), vI ((strL.getD w 0 : Nat) : Int)]) (st := []) hx lkL_9 okmSchk d12_method_2_code_3 rfl rfl (Nat.le_of_ble_eq_true rfl) (Nat.zero_add _).symm (Nat.zero_add _).symm rfl (c_Schk hi ?_)
  refine J_aload_n hx d12_method_2_code_6 (i := 0) rfl rfl ?_
  refine J_iload_n hx d12_method_2_code_7 (i := 1) rfl rfl ?_
  refine J_baldS hx hw hi d12_method_2_code_8 ?_
  refine J_sipush (v := 255) hx d12_method_2_code_9 (by decide) ?_
  refine J_iand (v := wch w i) hx d12_method_2_code_12 hs.1 ?_
  refine J_i2c hx d12_method_2_code_13 (fun z hz => by rw [wch_z hz]; exact hs.2.1) ?_
  exact J_nret hx hr d12_method_2_code_14 (fun z hz => by rw [wch_z hz]; exact hs.2.2.1) hQ
theorem c_Schr {w i : Nat} (hw : w < 7) (hi : i < strL.getD w 0) (hQ : Q (vI (wch w i)) T M sz) : Ct g (d + 4) mSchr [vR (g.2.2.2.2.1 w), vI ((i : Nat) : Int)] T M sz 0 0 Q := by
  have h6 := (str_len ⟨w, hw⟩).2.2.1
  have hs := str_chr ⟨w, hw⟩ ⟨i, Nat.lt_of_lt_of_le hi h6⟩ hi
  refine Ct_of2 (ls := [vR (g.2.2.2.2.1 w), vI ((i : Nat) : Int)]) okmSchr rfl (Nat.le_of_ble_eq_true rfl) rfl ?_
  intro x hx hr hnm
  refine J_aload_n hx d11_method_56_code_0 (i := 0) rfl rfl ?_
  refine J_invVK (As := []) (st := []) hx hw lkS_492 okmSlat d11_method_56_code_1 rfl rfl rfl (Nat.le_of_ble_eq_true rfl) rfl (c_Slat hw ?_)
  refine J_if_eq (tgt := 16) hx d11_method_56_code_4 (by decide) (fun c9 => absurd c9 (by decide)) (fun _ => ?_)
  refine J_aload_n hx d11_method_56_code_7 (i := 0) rfl rfl ?_
  refine J_gval hx hw flS_9 d11_method_56_code_8 ?_
  refine J_iload_n hx d11_method_56_code_11 (i := 1) rfl rfl ?_
  refine J_invS (As := [vR (g.2.2.2.2.2 w), vI ((i : Nat) : Int)]) (st := []) hx lkS_495 okmLchr d11_method_56_code_12 rfl rfl (Nat.le_of_ble_eq_true rfl) (Nat.zero_add _).symm (Nat.zero_add _).symm rfl (c_Lchr hw hi ?_)
  exact J_nret hx hr d11_method_56_code_15 (fun z hz => by rw [wch_z hz]; exact hs.2.2.1) hQ
end
