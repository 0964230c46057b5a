/-- a private method of a class that the tables say can be made, by its rows of tables_1 -/
def lw_okq (q : MethodName × Nat) : Prop := (q.1.cls ≠ "java/lang/invoke/MethodHandle" ∧ q.1.cls ≠ "java/lang/invoke/VarHandle") ∧ Cond.instantiable q.1.cls q.2 ∈ tables_1 ∧ Cond.privateMethod q.1 ∈ tables_1 ∧ Cond.instanceMethod q.1 ∈ tables_1
theorem lw_p0 : lw_okq (⟨"ThroughTheChain", "refuse", "(I)I"⟩, 10) := ⟨⟨by decide +kernel, by decide +kernel⟩, List.mem_of_getElem? (i := 16) (by decide +kernel), List.mem_of_getElem? (i := 261) (by decide +kernel), List.mem_of_getElem? (i := 262) (by decide +kernel)⟩
theorem lw_p1 : lw_okq (⟨"ThroughTheChain", "faultOfRow", "(II)I"⟩, 10) := ⟨⟨by decide +kernel, by decide +kernel⟩, List.mem_of_getElem? (i := 16) (by decide +kernel), List.mem_of_getElem? (i := 273) (by decide +kernel), List.mem_of_getElem? (i := 274) (by decide +kernel)⟩
theorem lw_p2 : lw_okq (⟨"ThroughTheChain$Tape", "toNextToken", "()V"⟩, 6) := ⟨⟨by decide +kernel, by decide +kernel⟩, List.mem_of_getElem? (i := 175) (by decide +kernel), List.mem_of_getElem? (i := 395) (by decide +kernel), List.mem_of_getElem? (i := 396) (by decide +kernel)⟩
theorem lw_p3 : lw_okq (⟨"ThroughTheChain$Tape", "readStatement", "(LThroughTheChain$Yard;)V"⟩, 6) := ⟨⟨by decide +kernel, by decide +kernel⟩, List.mem_of_getElem? (i := 175) (by decide +kernel), List.mem_of_getElem? (i := 402) (by decide +kernel), List.mem_of_getElem? (i := 403) (by decide +kernel)⟩
theorem lw_p4 : lw_okq (⟨"ThroughTheChain$Tape", "isWord", "(Ljava/lang/String;)Z"⟩, 6) := ⟨⟨by decide +kernel, by decide +kernel⟩, List.mem_of_getElem? (i := 175) (by decide +kernel), List.mem_of_getElem? (i := 407) (by decide +kernel), List.mem_of_getElem? (i := 408) (by decide +kernel)⟩
theorem lw_p5 : lw_okq (⟨"ThroughTheChain$Tape", "readOne", "(LThroughTheChain$Yard;)V"⟩, 6) := ⟨⟨by decide +kernel, by decide +kernel⟩, List.mem_of_getElem? (i := 175) (by decide +kernel), List.mem_of_getElem? (i := 459) (by decide +kernel), List.mem_of_getElem? (i := 460) (by decide +kernel)⟩
theorem lw_p6 : lw_okq (⟨"ThroughTheChain$Tape", "number", "(II)I"⟩, 6) := ⟨⟨by decide +kernel, by decide +kernel⟩, List.mem_of_getElem? (i := 175) (by decide +kernel), List.mem_of_getElem? (i := 463) (by decide +kernel), List.mem_of_getElem? (i := 464) (by decide +kernel)⟩
theorem lw_p7 : lw_okq (⟨"ThroughTheChain$Tape", "valueOfToken", "()I"⟩, 6) := ⟨⟨by decide +kernel, by decide +kernel⟩, List.mem_of_getElem? (i := 175) (by decide +kernel), List.mem_of_getElem? (i := 467) (by decide +kernel), List.mem_of_getElem? (i := 468) (by decide +kernel)⟩
theorem lw_p8 : lw_okq (⟨"ThroughTheChain$Tape", "readTired", "(LThroughTheChain$Yard;)V"⟩, 6) := ⟨⟨by decide +kernel, by decide +kernel⟩, List.mem_of_getElem? (i := 175) (by decide +kernel), List.mem_of_getElem? (i := 473) (by decide +kernel), List.mem_of_getElem? (i := 474) (by decide +kernel)⟩
theorem lw_p9 : lw_okq (⟨"ThroughTheChain$Tape", "readRun", "(LThroughTheChain$Yard;)V"⟩, 6) := ⟨⟨by decide +kernel, by decide +kernel⟩, List.mem_of_getElem? (i := 175) (by decide +kernel), List.mem_of_getElem? (i := 478) (by decide +kernel), List.mem_of_getElem? (i := 479) (by decide +kernel)⟩
theorem lw_p10 : lw_okq (⟨"ThroughTheChain$Tape", "numberBehindWord", "(II)I"⟩, 6) := ⟨⟨by decide +kernel, by decide +kernel⟩, List.mem_of_getElem? (i := 175) (by decide +kernel), List.mem_of_getElem? (i := 522) (by decide +kernel), List.mem_of_getElem? (i := 523) (by decide +kernel)⟩
theorem lw_p11 : lw_okq (⟨"ThroughTheChain", "faultOfRunner", "(II)I"⟩, 10) := ⟨⟨by decide +kernel, by decide +kernel⟩, List.mem_of_getElem? (i := 16) (by decide +kernel), List.mem_of_getElem? (i := 584) (by decide +kernel), List.mem_of_getElem? (i := 585) (by decide +kernel)⟩
theorem lw_p12 : lw_okq (⟨"ThroughTheChain$Orders", "fillFrom", "(II)V"⟩, 6) := ⟨⟨by decide +kernel, by decide +kernel⟩, List.mem_of_getElem? (i := 148) (by decide +kernel), List.mem_of_getElem? (i := 674) (by decide +kernel), List.mem_of_getElem? (i := 675) (by decide +kernel)⟩
theorem lw_p13 : lw_okq (⟨"ThroughTheChain$Orders", "strengthBehind", "(II)I"⟩, 6) := ⟨⟨by decide +kernel, by decide +kernel⟩, List.mem_of_getElem? (i := 148) (by decide +kernel), List.mem_of_getElem? (i := 678) (by decide +kernel), List.mem_of_getElem? (i := 679) (by decide +kernel)⟩
theorem lw_p14 : lw_okq (⟨"ThroughTheChain$Game", "mostByCall", "(I)I"⟩, 2) := ⟨⟨by decide +kernel, by decide +kernel⟩, List.mem_of_getElem? (i := 131) (by decide +kernel), List.mem_of_getElem? (i := 736) (by decide +kernel), List.mem_of_getElem? (i := 737) (by decide +kernel)⟩
theorem lw_p15 : lw_okq (⟨"ThroughTheChain$Game", "leastByRun", "(II)I"⟩, 2) := ⟨⟨by decide +kernel, by decide +kernel⟩, List.mem_of_getElem? (i := 131) (by decide +kernel), List.mem_of_getElem? (i := 742) (by decide +kernel), List.mem_of_getElem? (i := 743) (by decide +kernel)⟩
def lw_privs_1 : List (MethodName × Nat) := [(⟨"ThroughTheChain", "refuse", "(I)I"⟩, 10), (⟨"ThroughTheChain", "faultOfRow", "(II)I"⟩, 10), (⟨"ThroughTheChain$Tape", "toNextToken", "()V"⟩, 6), (⟨"ThroughTheChain$Tape", "readStatement", "(LThroughTheChain$Yard;)V"⟩, 6), (⟨"ThroughTheChain$Tape", "isWord", "(Ljava/lang/String;)Z"⟩, 6), (⟨"ThroughTheChain$Tape", "readOne", "(LThroughTheChain$Yard;)V"⟩, 6), (⟨"ThroughTheChain$Tape", "number", "(II)I"⟩, 6), (⟨"ThroughTheChain$Tape", "valueOfToken", "()I"⟩, 6), (⟨"ThroughTheChain$Tape", "readTired", "(LThroughTheChain$Yard;)V"⟩, 6), (⟨"ThroughTheChain$Tape", "readRun", "(LThroughTheChain$Yard;)V"⟩, 6), (⟨"ThroughTheChain$Tape", "numberBehindWord", "(II)I"⟩, 6), (⟨"ThroughTheChain", "faultOfRunner", "(II)I"⟩, 10), (⟨"ThroughTheChain$Orders", "fillFrom", "(II)V"⟩, 6), (⟨"ThroughTheChain$Orders", "strengthBehind", "(II)I"⟩, 6), (⟨"ThroughTheChain$Game", "mostByCall", "(I)I"⟩, 2), (⟨"ThroughTheChain$Game", "leastByRun", "(II)I"⟩, 2)]
theorem lw_r1 : ∀ q ∈ lw_privs_1, lw_okq q := List.forall_mem_cons.mpr ⟨lw_p0, List.forall_mem_cons.mpr ⟨lw_p1, List.forall_mem_cons.mpr ⟨lw_p2, List.forall_mem_cons.mpr ⟨lw_p3, List.forall_mem_cons.mpr ⟨lw_p4, List.forall_mem_cons.mpr ⟨lw_p5, List.forall_mem_cons.mpr ⟨lw_p6, List.forall_mem_cons.mpr ⟨lw_p7, List.forall_mem_cons.mpr ⟨lw_p8, List.forall_mem_cons.mpr ⟨lw_p9, List.forall_mem_cons.mpr ⟨lw_p10, List.forall_mem_cons.mpr ⟨lw_p11, List.forall_mem_cons.mpr ⟨lw_p12, List.forall_mem_cons.mpr ⟨lw_p13, List.forall_mem_cons.mpr ⟨lw_p14, List.forall_mem_cons.mpr ⟨lw_p15, fun _ h => absurd h List.not_mem_nil⟩⟩⟩⟩⟩⟩⟩⟩⟩⟩⟩⟩⟩⟩⟩⟩
theorem lw_p16 : lw_okq (⟨"ThroughTheChain$Game", "valueBehind", "(IIII)I"⟩, 2) := ⟨⟨by decide +kernel, by decide +kernel⟩, List.mem_of_getElem? (i := 131) (by decide +kernel), List.mem_of_getElem? (i := 748) (by decide +kernel), List.mem_of_getElem? (i := 749) (by decide +kernel)⟩
theorem lw_p17 : lw_okq (⟨"ThroughTheChain", "followBook", "(LThroughTheChain$Shelf;I)I"⟩, 10) := ⟨⟨by decide +kernel, by decide +kernel⟩, List.mem_of_getElem? (i := 16) (by decide +kernel), List.mem_of_getElem? (i := 782) (by decide +kernel), List.mem_of_getElem? (i := 783) (by decide +kernel)⟩
theorem lw_p18 : lw_okq (⟨"ThroughTheChain", "isOrderOf", "(I[J)Z"⟩, 10) := ⟨⟨by decide +kernel, by decide +kernel⟩, List.mem_of_getElem? (i := 16) (by decide +kernel), List.mem_of_getElem? (i := 807) (by decide +kernel), List.mem_of_getElem? (i := 808) (by decide +kernel)⟩
theorem lw_p19 : lw_okq (⟨"ThroughTheChain", "shelvesInUse", "()I"⟩, 10) := ⟨⟨by decide +kernel, by decide +kernel⟩, List.mem_of_getElem? (i := 16) (by decide +kernel), List.mem_of_getElem? (i := 866) (by decide +kernel), List.mem_of_getElem? (i := 867) (by decide +kernel)⟩
theorem lw_p20 : lw_okq (⟨"ThroughTheChainModel", "refuse", "(I)I"⟩, 38) := ⟨⟨by decide +kernel, by decide +kernel⟩, List.mem_of_getElem? (i := 870) (by decide +kernel), List.mem_of_getElem? (i := 1004) (by decide +kernel), List.mem_of_getElem? (i := 1005) (by decide +kernel)⟩
theorem lw_p21 : lw_okq (⟨"ThroughTheChainModel", "noRow", "(I)I"⟩, 38) := ⟨⟨by decide +kernel, by decide +kernel⟩, List.mem_of_getElem? (i := 870) (by decide +kernel), List.mem_of_getElem? (i := 1012) (by decide +kernel), List.mem_of_getElem? (i := 1013) (by decide +kernel)⟩
theorem lw_p22 : lw_okq (⟨"ThroughTheChainModel", "isOne", "(I)Z"⟩, 38) := ⟨⟨by decide +kernel, by decide +kernel⟩, List.mem_of_getElem? (i := 870) (by decide +kernel), List.mem_of_getElem? (i := 1035) (by decide +kernel), List.mem_of_getElem? (i := 1036) (by decide +kernel)⟩
theorem lw_p23 : lw_okq (⟨"ThroughTheChainModel", "chainAt", "(I)I"⟩, 38) := ⟨⟨by decide +kernel, by decide +kernel⟩, List.mem_of_getElem? (i := 870) (by decide +kernel), List.mem_of_getElem? (i := 1047) (by decide +kernel), List.mem_of_getElem? (i := 1048) (by decide +kernel)⟩
theorem lw_p24 : lw_okq (⟨"ThroughTheChainModel", "placeOf", "(I)I"⟩, 38) := ⟨⟨by decide +kernel, by decide +kernel⟩, List.mem_of_getElem? (i := 870) (by decide +kernel), List.mem_of_getElem? (i := 1051) (by decide +kernel), List.mem_of_getElem? (i := 1052) (by decide +kernel)⟩
theorem lw_p25 : lw_okq (⟨"ThroughTheChainModel", "hold", "(II)I"⟩, 38) := ⟨⟨by decide +kernel, by decide +kernel⟩, List.mem_of_getElem? (i := 870) (by decide +kernel), List.mem_of_getElem? (i := 1055) (by decide +kernel), List.mem_of_getElem? (i := 1056) (by decide +kernel)⟩
theorem lw_p26 : lw_okq (⟨"ThroughTheChainModel", "force", "(I)I"⟩, 38) := ⟨⟨by decide +kernel, by decide +kernel⟩, List.mem_of_getElem? (i := 870) (by decide +kernel), List.mem_of_getElem? (i := 1059) (by decide +kernel), List.mem_of_getElem? (i := 1060) (by decide +kernel)⟩
theorem lw_p27 : lw_okq (⟨"ThroughTheChainModel", "addOne", "(IIIII)V"⟩, 38) := ⟨⟨by decide +kernel, by decide +kernel⟩, List.mem_of_getElem? (i := 870) (by decide +kernel), List.mem_of_getElem? (i := 1069) (by decide +kernel), List.mem_of_getElem? (i := 1070) (by decide +kernel)⟩
theorem lw_p28 : lw_okq (⟨"ThroughTheChainModel", "asked", "(I)I"⟩, 38) := ⟨⟨by decide +kernel, by decide +kernel⟩, List.mem_of_getElem? (i := 870) (by decide +kernel), List.mem_of_getElem? (i := 1088) (by decide +kernel), List.mem_of_getElem? (i := 1089) (by decide +kernel)⟩
theorem lw_p29 : lw_okq (⟨"ThroughTheChainModel", "becomes", "(II)V"⟩, 38) := ⟨⟨by decide +kernel, by decide +kernel⟩, List.mem_of_getElem? (i := 870) (by decide +kernel), List.mem_of_getElem? (i := 1092) (by decide +kernel), List.mem_of_getElem? (i := 1093) (by decide +kernel)⟩
theorem lw_p30 : lw_okq (⟨"ThroughTheChainModel", "fresh", "()LThroughTheChainModel;"⟩, 38) := ⟨⟨by decide +kernel, by decide +kernel⟩, List.mem_of_getElem? (i := 870) (by decide +kernel), List.mem_of_getElem? (i := 1109) (by decide +kernel), List.mem_of_getElem? (i := 1110) (by decide +kernel)⟩
theorem lw_p31 : lw_okq (⟨"ThroughTheChainModel", "takeFrom", "(LThroughTheChainModel;)V"⟩, 38) := ⟨⟨by decide +kernel, by decide +kernel⟩, List.mem_of_getElem? (i := 870) (by decide +kernel), List.mem_of_getElem? (i := 1115) (by decide +kernel), List.mem_of_getElem? (i := 1116) (by decide +kernel)⟩
def lw_privs_2 : List (MethodName × Nat) := [(⟨"ThroughTheChain$Game", "valueBehind", "(IIII)I"⟩, 2), (⟨"ThroughTheChain", "followBook", "(LThroughTheChain$Shelf;I)I"⟩, 10), (⟨"ThroughTheChain", "isOrderOf", "(I[J)Z"⟩, 10), (⟨"ThroughTheChain", "shelvesInUse", "()I"⟩, 10), (⟨"ThroughTheChainModel", "refuse", "(I)I"⟩, 38), (⟨"ThroughTheChainModel", "noRow", "(I)I"⟩, 38), (⟨"ThroughTheChainModel", "isOne", "(I)Z"⟩, 38), (⟨"ThroughTheChainModel", "chainAt", "(I)I"⟩, 38), (⟨"ThroughTheChainModel", "placeOf", "(I)I"⟩, 38), (⟨"ThroughTheChainModel", "hold", "(II)I"⟩, 38), (⟨"ThroughTheChainModel", "force", "(I)I"⟩, 38), (⟨"ThroughTheChainModel", "addOne", "(IIIII)V"⟩, 38), (⟨"ThroughTheChainModel", "asked", "(I)I"⟩, 38), (⟨"ThroughTheChainModel", "becomes", "(II)V"⟩, 38), (⟨"ThroughTheChainModel", "fresh", "()LThroughTheChainModel;"⟩, 38), (⟨"ThroughTheChainModel", "takeFrom", "(LThroughTheChainModel;)V"⟩, 38)]
theorem lw_r2 : ∀ q ∈ lw_privs_2, lw_okq q := List.forall_mem_cons.mpr ⟨lw_p16, List.forall_mem_cons.mpr ⟨lw_p17, List.forall_mem_cons.mpr ⟨lw_p18, List.forall_mem_cons.mpr ⟨lw_p19, List.forall_mem_cons.mpr ⟨lw_p20, List.forall_mem_cons.mpr ⟨lw_p21, List.forall_mem_cons.mpr ⟨lw_p22, List.forall_mem_cons.mpr ⟨lw_p23, List.forall_mem_cons.mpr ⟨lw_p24, List.forall_mem_cons.mpr ⟨lw_p25, List.forall_mem_cons.mpr ⟨lw_p26, List.forall_mem_cons.mpr ⟨lw_p27, List.forall_mem_cons.mpr ⟨lw_p28, List.forall_mem_cons.mpr ⟨lw_p29, List.forall_mem_cons.mpr ⟨lw_p30, List.forall_mem_cons.mpr ⟨lw_p31, fun _ h => absurd h List.not_mem_nil⟩⟩⟩⟩⟩⟩⟩⟩⟩⟩⟩⟩⟩⟩⟩⟩
theorem lw_p32 : lw_okq (⟨"ThroughTheChainModel", "readAll", "()Z"⟩, 38) := ⟨⟨by decide +kernel, by decide +kernel⟩, List.mem_of_getElem? (i := 870) (by decide +kernel), List.mem_of_getElem? (i := 1122) (by decide +kernel), List.mem_of_getElem? (i := 1123) (by decide +kernel)⟩
theorem lw_p33 : lw_okq (⟨"ThroughTheChainModel", "look", "()V"⟩, 38) := ⟨⟨by decide +kernel, by decide +kernel⟩, List.mem_of_getElem? (i := 870) (by decide +kernel), List.mem_of_getElem? (i := 1126) (by decide +kernel), List.mem_of_getElem? (i := 1127) (by decide +kernel)⟩
theorem lw_p34 : lw_okq (⟨"ThroughTheChainModel", "statement", "()Z"⟩, 38) := ⟨⟨by decide +kernel, by decide +kernel⟩, List.mem_of_getElem? (i := 870) (by decide +kernel), List.mem_of_getElem? (i := 1136) (by decide +kernel), List.mem_of_getElem? (i := 1137) (by decide +kernel)⟩
theorem lw_p35 : lw_okq (⟨"ThroughTheChainModel", "isWord", "(Ljava/lang/String;)Z"⟩, 38) := ⟨⟨by decide +kernel, by decide +kernel⟩, List.mem_of_getElem? (i := 870) (by decide +kernel), List.mem_of_getElem? (i := 1141) (by decide +kernel), List.mem_of_getElem? (i := 1142) (by decide +kernel)⟩
theorem lw_p36 : lw_okq (⟨"ThroughTheChainModel", "tells", "(II)Z"⟩, 38) := ⟨⟨by decide +kernel, by decide +kernel⟩, List.mem_of_getElem? (i := 870) (by decide +kernel), List.mem_of_getElem? (i := 1147) (by decide +kernel), List.mem_of_getElem? (i := 1148) (by decide +kernel)⟩
theorem lw_p37 : lw_okq (⟨"ThroughTheChainModel", "number", "(III)Z"⟩, 38) := ⟨⟨by decide +kernel, by decide +kernel⟩, List.mem_of_getElem? (i := 870) (by decide +kernel), List.mem_of_getElem? (i := 1151) (by decide +kernel), List.mem_of_getElem? (i := 1152) (by decide +kernel)⟩
theorem lw_p38 : lw_okq (⟨"ThroughTheChainModel", "wrong", "()Z"⟩, 38) := ⟨⟨by decide +kernel, by decide +kernel⟩, List.mem_of_getElem? (i := 870) (by decide +kernel), List.mem_of_getElem? (i := 1155) (by decide +kernel), List.mem_of_getElem? (i := 1156) (by decide +kernel)⟩
theorem lw_p39 : lw_okq (⟨"ThroughTheChainModel", "asks", "(I)Z"⟩, 38) := ⟨⟨by decide +kernel, by decide +kernel⟩, List.mem_of_getElem? (i := 870) (by decide +kernel), List.mem_of_getElem? (i := 1161) (by decide +kernel), List.mem_of_getElem? (i := 1162) (by decide +kernel)⟩
theorem lw_p40 : lw_okq (⟨"ThroughTheChainModel", "runTold", "()Z"⟩, 38) := ⟨⟨by decide +kernel, by decide +kernel⟩, List.mem_of_getElem? (i := 870) (by decide +kernel), List.mem_of_getElem? (i := 1169) (by decide +kernel), List.mem_of_getElem? (i := 1170) (by decide +kernel)⟩
theorem lw_p41 : lw_okq (⟨"ThroughTheChainModel", "isOver", "()Z"⟩, 38) := ⟨⟨by decide +kernel, by decide +kernel⟩, List.mem_of_getElem? (i := 870) (by decide +kernel), List.mem_of_getElem? (i := 1173) (by decide +kernel), List.mem_of_getElem? (i := 1174) (by decide +kernel)⟩
theorem lw_p42 : lw_okq (⟨"ThroughTheChainModel", "oddsOf", "(II)I"⟩, 38) := ⟨⟨by decide +kernel, by decide +kernel⟩, List.mem_of_getElem? (i := 870) (by decide +kernel), List.mem_of_getElem? (i := 1177) (by decide +kernel), List.mem_of_getElem? (i := 1178) (by decide +kernel)⟩
theorem lw_p43 : lw_okq (⟨"ThroughTheChainModel", "strengthOf", "([III)I"⟩, 38) := ⟨⟨by decide +kernel, by decide +kernel⟩, List.mem_of_getElem? (i := 870) (by decide +kernel), List.mem_of_getElem? (i := 1181) (by decide +kernel), List.mem_of_getElem? (i := 1182) (by decide +kernel)⟩
theorem lw_p44 : lw_okq (⟨"ThroughTheChainModel", "runsTorn", "(III)V"⟩, 38) := ⟨⟨by decide +kernel, by decide +kernel⟩, List.mem_of_getElem? (i := 870) (by decide +kernel), List.mem_of_getElem? (i := 1186) (by decide +kernel), List.mem_of_getElem? (i := 1187) (by decide +kernel)⟩
theorem lw_p45 : lw_okq (⟨"ThroughTheChainModel", "tires", "(I)V"⟩, 38) := ⟨⟨by decide +kernel, by decide +kernel⟩, List.mem_of_getElem? (i := 870) (by decide +kernel), List.mem_of_getElem? (i := 1190) (by decide +kernel), List.mem_of_getElem? (i := 1191) (by decide +kernel)⟩
theorem lw_p46 : lw_okq (⟨"ThroughTheChainModel", "goesOut", "(II)V"⟩, 38) := ⟨⟨by decide +kernel, by decide +kernel⟩, List.mem_of_getElem? (i := 870) (by decide +kernel), List.mem_of_getElem? (i := 1194) (by decide +kernel), List.mem_of_getElem? (i := 1195) (by decide +kernel)⟩
theorem lw_p47 : lw_okq (⟨"ThroughTheChainModel", "ends", "()V"⟩, 38) := ⟨⟨by decide +kernel, by decide +kernel⟩, List.mem_of_getElem? (i := 870) (by decide +kernel), List.mem_of_getElem? (i := 1198) (by decide +kernel), List.mem_of_getElem? (i := 1199) (by decide +kernel)⟩
def lw_privs_3 : List (MethodName × Nat) := [(⟨"ThroughTheChainModel", "readAll", "()Z"⟩, 38), (⟨"ThroughTheChainModel", "look", "()V"⟩, 38), (⟨"ThroughTheChainModel", "statement", "()Z"⟩, 38), (⟨"ThroughTheChainModel", "isWord", "(Ljava/lang/String;)Z"⟩, 38), (⟨"ThroughTheChainModel", "tells", "(II)Z"⟩, 38), (⟨"ThroughTheChainModel", "number", "(III)Z"⟩, 38), (⟨"ThroughTheChainModel", "wrong", "()Z"⟩, 38), (⟨"ThroughTheChainModel", "asks", "(I)Z"⟩, 38), (⟨"ThroughTheChainModel", "runTold", "()Z"⟩, 38), (⟨"ThroughTheChainModel", "isOver", "()Z"⟩, 38), (⟨"ThroughTheChainModel", "oddsOf", "(II)I"⟩, 38), (⟨"ThroughTheChainModel", "strengthOf", "([III)I"⟩, 38), (⟨"ThroughTheChainModel", "runsTorn", "(III)V"⟩, 38), (⟨"ThroughTheChainModel", "tires", "(I)V"⟩, 38), (⟨"ThroughTheChainModel", "goesOut", "(II)V"⟩, 38), (⟨"ThroughTheChainModel", "ends", "()V"⟩, 38)]
theorem lw_r3 : ∀ q ∈ lw_privs_3, lw_okq q := List.forall_mem_cons.mpr ⟨lw_p32, List.forall_mem_cons.mpr ⟨lw_p33, List.forall_mem_cons.mpr ⟨lw_p34, List.forall_mem_cons.mpr ⟨lw_p35, List.forall_mem_cons.mpr ⟨lw_p36, List.forall_mem_cons.mpr ⟨lw_p37, List.forall_mem_cons.mpr ⟨lw_p38, List.forall_mem_cons.mpr ⟨lw_p39, List.forall_mem_cons.mpr ⟨lw_p40, List.forall_mem_cons.mpr ⟨lw_p41, List.forall_mem_cons.mpr ⟨lw_p42, List.forall_mem_cons.mpr ⟨lw_p43, List.forall_mem_cons.mpr ⟨lw_p44, List.forall_mem_cons.mpr ⟨lw_p45, List.forall_mem_cons.mpr ⟨lw_p46, List.forall_mem_cons.mpr ⟨lw_p47, fun _ h => absurd h List.not_mem_nil⟩⟩⟩⟩⟩⟩⟩⟩⟩⟩⟩⟩⟩⟩⟩⟩
theorem lw_p48 : lw_okq (⟨"ThroughTheChainModel", "runsHeld", "(II)V"⟩, 38) := ⟨⟨by decide +kernel, by decide +kernel⟩, List.mem_of_getElem? (i := 870) (by decide +kernel), List.mem_of_getElem? (i := 1202) (by decide +kernel), List.mem_of_getElem? (i := 1203) (by decide +kernel)⟩
theorem lw_p49 : lw_okq (⟨"ThroughTheChainModel", "isJoint", "(II)Z"⟩, 38) := ⟨⟨by decide +kernel, by decide +kernel⟩, List.mem_of_getElem? (i := 870) (by decide +kernel), List.mem_of_getElem? (i := 1219) (by decide +kernel), List.mem_of_getElem? (i := 1220) (by decide +kernel)⟩
theorem lw_p50 : lw_okq (⟨"ThroughTheChainModel", "leastOf", "([II)I"⟩, 38) := ⟨⟨by decide +kernel, by decide +kernel⟩, List.mem_of_getElem? (i := 870) (by decide +kernel), List.mem_of_getElem? (i := 1227) (by decide +kernel), List.mem_of_getElem? (i := 1228) (by decide +kernel)⟩
theorem lw_p51 : lw_okq (⟨"ThroughTheChainModel", "wonNow", "()I"⟩, 38) := ⟨⟨by decide +kernel, by decide +kernel⟩, List.mem_of_getElem? (i := 870) (by decide +kernel), List.mem_of_getElem? (i := 1263) (by decide +kernel), List.mem_of_getElem? (i := 1264) (by decide +kernel)⟩
theorem lw_p52 : lw_okq (⟨"ThroughTheChainModel", "atOf", "(I)I"⟩, 38) := ⟨⟨by decide +kernel, by decide +kernel⟩, List.mem_of_getElem? (i := 870) (by decide +kernel), List.mem_of_getElem? (i := 1275) (by decide +kernel), List.mem_of_getElem? (i := 1276) (by decide +kernel)⟩
theorem lw_p53 : lw_okq (⟨"ThroughTheChainModel", "takeAt", "(I)I"⟩, 38) := ⟨⟨by decide +kernel, by decide +kernel⟩, List.mem_of_getElem? (i := 870) (by decide +kernel), List.mem_of_getElem? (i := 1283) (by decide +kernel), List.mem_of_getElem? (i := 1284) (by decide +kernel)⟩
theorem lw_p54 : lw_okq (⟨"ThroughTheChainModel", "callBy", "(I)I"⟩, 38) := ⟨⟨by decide +kernel, by decide +kernel⟩, List.mem_of_getElem? (i := 870) (by decide +kernel), List.mem_of_getElem? (i := 1291) (by decide +kernel), List.mem_of_getElem? (i := 1292) (by decide +kernel)⟩
theorem lw_p55 : lw_okq (⟨"ThroughTheChainModel", "plays", "(I)V"⟩, 38) := ⟨⟨by decide +kernel, by decide +kernel⟩, List.mem_of_getElem? (i := 870) (by decide +kernel), List.mem_of_getElem? (i := 1299) (by decide +kernel), List.mem_of_getElem? (i := 1300) (by decide +kernel)⟩
theorem lw_p56 : lw_okq (⟨"ThroughTheChainModel", "findStand", "(I)V"⟩, 38) := ⟨⟨by decide +kernel, by decide +kernel⟩, List.mem_of_getElem? (i := 870) (by decide +kernel), List.mem_of_getElem? (i := 1312) (by decide +kernel), List.mem_of_getElem? (i := 1313) (by decide +kernel)⟩
theorem lw_p57 : lw_okq (⟨"ThroughTheChainModel", "seekStand", "(III)V"⟩, 38) := ⟨⟨by decide +kernel, by decide +kernel⟩, List.mem_of_getElem? (i := 870) (by decide +kernel), List.mem_of_getElem? (i := 1316) (by decide +kernel), List.mem_of_getElem? (i := 1317) (by decide +kernel)⟩
theorem lw_p58 : lw_okq (⟨"ThroughTheChainModel", "togetherIn", "(IIIZ)I"⟩, 38) := ⟨⟨by decide +kernel, by decide +kernel⟩, List.mem_of_getElem? (i := 870) (by decide +kernel), List.mem_of_getElem? (i := 1328) (by decide +kernel), List.mem_of_getElem? (i := 1329) (by decide +kernel)⟩
theorem lw_p59 : lw_okq (⟨"ThroughTheChainModel", "changes", "(II)V"⟩, 38) := ⟨⟨by decide +kernel, by decide +kernel⟩, List.mem_of_getElem? (i := 870) (by decide +kernel), List.mem_of_getElem? (i := 1336) (by decide +kernel), List.mem_of_getElem? (i := 1337) (by decide +kernel)⟩
theorem lw_p60 : lw_okq (⟨"ThroughTheChainModel", "gameOf", "(I)I"⟩, 38) := ⟨⟨by decide +kernel, by decide +kernel⟩, List.mem_of_getElem? (i := 870) (by decide +kernel), List.mem_of_getElem? (i := 1344) (by decide +kernel), List.mem_of_getElem? (i := 1345) (by decide +kernel)⟩
theorem lw_p61 : lw_okq (⟨"ThroughTheChainModel", "leastBy", "(II)I"⟩, 38) := ⟨⟨by decide +kernel, by decide +kernel⟩, List.mem_of_getElem? (i := 870) (by decide +kernel), List.mem_of_getElem? (i := 1348) (by decide +kernel), List.mem_of_getElem? (i := 1349) (by decide +kernel)⟩
theorem lw_p62 : lw_okq (⟨"ThroughTheChainModel", "noBook", "(II)I"⟩, 38) := ⟨⟨by decide +kernel, by decide +kernel⟩, List.mem_of_getElem? (i := 870) (by decide +kernel), List.mem_of_getElem? (i := 1364) (by decide +kernel), List.mem_of_getElem? (i := 1365) (by decide +kernel)⟩
theorem lw_p63 : lw_okq (⟨"ThroughTheChainModel", "wrongIn", "([JI)I"⟩, 38) := ⟨⟨by decide +kernel, by decide +kernel⟩, List.mem_of_getElem? (i := 870) (by decide +kernel), List.mem_of_getElem? (i := 1368) (by decide +kernel), List.mem_of_getElem? (i := 1369) (by decide +kernel)⟩
def lw_privs_4 : List (MethodName × Nat) := [(⟨"ThroughTheChainModel", "runsHeld", "(II)V"⟩, 38), (⟨"ThroughTheChainModel", "isJoint", "(II)Z"⟩, 38), (⟨"ThroughTheChainModel", "leastOf", "([II)I"⟩, 38), (⟨"ThroughTheChainModel", "wonNow", "()I"⟩, 38), (⟨"ThroughTheChainModel", "atOf", "(I)I"⟩, 38), (⟨"ThroughTheChainModel", "takeAt", "(I)I"⟩, 38), (⟨"ThroughTheChainModel", "callBy", "(I)I"⟩, 38), (⟨"ThroughTheChainModel", "plays", "(I)V"⟩, 38), (⟨"ThroughTheChainModel", "findStand", "(I)V"⟩, 38), (⟨"ThroughTheChainModel", "seekStand", "(III)V"⟩, 38), (⟨"ThroughTheChainModel", "togetherIn", "(IIIZ)I"⟩, 38), (⟨"ThroughTheChainModel", "changes", "(II)V"⟩, 38), (⟨"ThroughTheChainModel", "gameOf", "(I)I"⟩, 38), (⟨"ThroughTheChainModel", "leastBy", "(II)I"⟩, 38), (⟨"ThroughTheChainModel", "noBook", "(II)I"⟩, 38), (⟨"ThroughTheChainModel", "wrongIn", "([JI)I"⟩, 38)]
theorem lw_r4 : ∀ q ∈ lw_privs_4, lw_okq q := List.forall_mem_cons.mpr ⟨lw_p48, List.forall_mem_cons.mpr ⟨lw_p49, List.forall_mem_cons.mpr ⟨lw_p50, List.forall_mem_cons.mpr ⟨lw_p51, List.forall_mem_cons.mpr ⟨lw_p52, List.forall_mem_cons.mpr ⟨lw_p53, List.forall_mem_cons.mpr ⟨lw_p54, List.forall_mem_cons.mpr ⟨lw_p55, List.forall_mem_cons.mpr ⟨lw_p56, List.forall_mem_cons.mpr ⟨lw_p57, List.forall_mem_cons.mpr ⟨lw_p58, List.forall_mem_cons.mpr ⟨lw_p59, List.forall_mem_cons.mpr ⟨lw_p60, List.forall_mem_cons.mpr ⟨lw_p61, List.forall_mem_cons.mpr ⟨lw_p62, List.forall_mem_cons.mpr ⟨lw_p63, fun _ h => absurd h List.not_mem_nil⟩⟩⟩⟩⟩⟩⟩⟩⟩⟩⟩⟩⟩⟩⟩⟩
theorem lw_p64 : lw_okq (⟨"ThroughTheChainModel", "goesTold", "(J)Z"⟩, 38) := ⟨⟨by decide +kernel, by decide +kernel⟩, List.mem_of_getElem? (i := 870) (by decide +kernel), List.mem_of_getElem? (i := 1372) (by decide +kernel), List.mem_of_getElem? (i := 1373) (by decide +kernel)⟩
theorem lw_p65 : lw_okq (⟨"ThroughTheChainModel", "goesRun", "(III)Z"⟩, 38) := ⟨⟨by decide +kernel, by decide +kernel⟩, List.mem_of_getElem? (i := 870) (by decide +kernel), List.mem_of_getElem? (i := 1403) (by decide +kernel), List.mem_of_getElem? (i := 1404) (by decide +kernel)⟩
theorem lw_p66 : lw_okq (⟨"ThroughTheChainModel", "below", "(I)I"⟩, 38) := ⟨⟨by decide +kernel, by decide +kernel⟩, List.mem_of_getElem? (i := 870) (by decide +kernel), List.mem_of_getElem? (i := 1407) (by decide +kernel), List.mem_of_getElem? (i := 1408) (by decide +kernel)⟩
def lw_privs_5 : List (MethodName × Nat) := [(⟨"ThroughTheChainModel", "goesTold", "(J)Z"⟩, 38), (⟨"ThroughTheChainModel", "goesRun", "(III)Z"⟩, 38), (⟨"ThroughTheChainModel", "below", "(I)I"⟩, 38)]
theorem lw_r5 : ∀ q ∈ lw_privs_5, lw_okq q := List.forall_mem_cons.mpr ⟨lw_p64, List.forall_mem_cons.mpr ⟨lw_p65, List.forall_mem_cons.mpr ⟨lw_p66, fun _ h => absurd h List.not_mem_nil⟩⟩⟩
def lw_privs : List (MethodName × Nat) := lw_privs_1 ++ (lw_privs_2 ++ (lw_privs_3 ++ (lw_privs_4 ++ (lw_privs_5))))
def lw_tbl : List Cond := k2_sels lw_privs ++ tables_1
theorem lw_privs_ok : ∀ q ∈ lw_privs, lw_okq q := by
  show ∀ q ∈ lw_privs_1 ++ (lw_privs_2 ++ (lw_privs_3 ++ (lw_privs_4 ++ (lw_privs_5)))), lw_okq q
  exact List.forall_mem_append.mpr ⟨lw_r1, List.forall_mem_append.mpr ⟨lw_r2, List.forall_mem_append.mpr ⟨lw_r3, List.forall_mem_append.mpr ⟨lw_r4, lw_r5⟩⟩⟩⟩
def RX0 : String := "ThroughTheChain$Game"
def TX0 : u_T := fun k => match k with
  | 0 => ("ThroughTheChain$Game", "yards", "[LThroughTheChain$Yard;", true)
  | _ => ("ThroughTheChain$Game", "chosen", "I", false)
def tyX0 : Nat → FieldType := fun k => match k with
  | 0 => .array (.object "ThroughTheChain$Yard")
  | _ => .int
theorem nmX0 : ∀ a, a < 2 → ∀ b, b < 2 → a ≠ b → (TX0 a).2.1 ≠ (TX0 b).2.1 := by decide +kernel
theorem tyX0_ok : ∀ k, k < 2 → parseFieldDescriptor (TX0 k).2.2.1 = some (tyX0 k) := by decide +kernel
abbrev cX0_init : ByteArray := prog_2_method_1_code
def yX0_init : MethodName := ⟨RX0, "<init>", "(LThroughTheChain$Yard;)V"⟩
abbrev cX0_valueFrom : ByteArray := prog_2_method_2_code
def yX0_valueFrom : MethodName := ⟨RX0, "valueFrom", "(LThroughTheChain$Yard;I)I"⟩
abbrev cX0_mostByCall : ByteArray := prog_2_method_3_code
def yX0_mostByCall : MethodName := ⟨RX0, "mostByCall", "(I)I"⟩
abbrev cX0_leastByRun : ByteArray := prog_2_method_4_code
def yX0_leastByRun : MethodName := ⟨RX0, "leastByRun", "(II)I"⟩
abbrev cX0_valueBehind : ByteArray := prog_2_method_5_code
def yX0_valueBehind : MethodName := ⟨RX0, "valueBehind", "(IIII)I"⟩
def RX1 : String := "ThroughTheChain$Orders"
def TX1 : u_T := fun k => match k with
  | 0 => ("ThroughTheChain$Orders", "found", "[I", true)
  | 1 => ("ThroughTheChain$Orders", "trial", "[I", true)
  | 2 => ("ThroughTheChain$Orders", "isPlaced", "[Z", true)
  | 3 => ("ThroughTheChain$Orders", "yard", "LThroughTheChain$Yard;", false)
  | 4 => ("ThroughTheChain$Orders", "chain", "I", false)
  | _ => ("ThroughTheChain$Orders", "best", "I", false)
def tyX1 : Nat → FieldType := fun k => match k with
  | 0 => .array .int
  | 1 => .array .int
  | 2 => .array .boolean
  | 3 => .object "ThroughTheChain$Yard"
  | 4 => .int
  | _ => .int
theorem nmX1 : ∀ a, a < 6 → ∀ b, b < 6 → a ≠ b → (TX1 a).2.1 ≠ (TX1 b).2.1 := by decide +kernel
theorem tyX1_ok : ∀ k, k < 6 → parseFieldDescriptor (TX1 k).2.2.1 = some (tyX1 k) := by decide +kernel
abbrev cX1_init : ByteArray := prog_3_method_1_code
def yX1_init : MethodName := ⟨RX1, "<init>", "()V"⟩
abbrev cX1_findBest : ByteArray := prog_3_method_2_code
def yX1_findBest : MethodName := ⟨RX1, "findBest", "(LThroughTheChain$Yard;I)I"⟩
abbrev cX1_fillFrom : ByteArray := prog_3_method_3_code
def yX1_fillFrom : MethodName := ⟨RX1, "fillFrom", "(II)V"⟩
abbrev cX1_strengthBehind : ByteArray := prog_3_method_4_code
def yX1_strengthBehind : MethodName := ⟨RX1, "strengthBehind", "(II)I"⟩
def RX2 : String := "ThroughTheChain$Player"
def TX2 : u_T := fun k => match k with
  | 0 => ("ThroughTheChain$Player", "yard", "LThroughTheChain$Yard;", true)
  | 1 => ("ThroughTheChain$Player", "length", "I", false)
  | _ => ("ThroughTheChain$Player", "changes", "I", false)
def tyX2 : Nat → FieldType := fun k => match k with
  | 0 => .object "ThroughTheChain$Yard"
  | 1 => .int
  | _ => .int
theorem nmX2 : ∀ a, a < 3 → ∀ b, b < 3 → a ≠ b → (TX2 a).2.1 ≠ (TX2 b).2.1 := by decide +kernel
theorem tyX2_ok : ∀ k, k < 3 → parseFieldDescriptor (TX2 k).2.2.1 = some (tyX2 k) := by decide +kernel
abbrev cX2_init : ByteArray := prog_4_method_1_code
def yX2_init : MethodName := ⟨RX2, "<init>", "(LThroughTheChain$Yard;)V"⟩
abbrev cX2_playFrom : ByteArray := prog_4_method_2_code
def yX2_playFrom : MethodName := ⟨RX2, "playFrom", "(LThroughTheChain$Yard;I)V"⟩
def RX3 : String := "ThroughTheChain$Shelf"
def TX3 : u_T := fun k => match k with
  | 0 => ("ThroughTheChain$Shelf", "elements", "[J", true)
  | 1 => ("ThroughTheChain$Shelf", "held", "I", false)
  | _ => ("ThroughTheChain$Shelf", "size", "I", false)
def tyX3 : Nat → FieldType := fun k => match k with
  | 0 => .array .long
  | 1 => .int
  | _ => .int
theorem nmX3 : ∀ a, a < 3 → ∀ b, b < 3 → a ≠ b → (TX3 a).2.1 ≠ (TX3 b).2.1 := by decide +kernel
theorem tyX3_ok : ∀ k, k < 3 → parseFieldDescriptor (TX3 k).2.2.1 = some (tyX3 k) := by decide +kernel
abbrev cX3_init : ByteArray := prog_5_method_1_code
def yX3_init : MethodName := ⟨RX3, "<init>", "()V"⟩
abbrev cX3_isRow : ByteArray := prog_5_method_2_code
def yX3_isRow : MethodName := ⟨RX3, "isRow", "()Z"⟩
abbrev cX3_isSomebody : ByteArray := prog_5_method_3_code
def yX3_isSomebody : MethodName := ⟨RX3, "isSomebody", "()Z"⟩
abbrev cX3_putRow : ByteArray := prog_5_method_4_code
def yX3_putRow : MethodName := ⟨RX3, "putRow", "(II)V"⟩
abbrev cX3_putElement : ByteArray := prog_5_method_5_code
def yX3_putElement : MethodName := ⟨RX3, "putElement", "(IJ)V"⟩
abbrev cX3_hasStretch : ByteArray := prog_5_method_6_code
def yX3_hasStretch : MethodName := ⟨RX3, "hasStretch", "(II)Z"⟩
def RX4 : String := "ThroughTheChain$Tape"
def TX4 : u_T := fun k => match k with
  | 0 => ("ThroughTheChain$Tape", "bytes", "[I", true)
  | 1 => ("ThroughTheChain$Tape", "size", "I", false)
  | 2 => ("ThroughTheChain$Tape", "fault", "I", false)
  | 3 => ("ThroughTheChain$Tape", "token", "I", false)
  | 4 => ("ThroughTheChain$Tape", "start", "I", false)
  | _ => ("ThroughTheChain$Tape", "end", "I", false)
def tyX4 : Nat → FieldType := fun k => match k with
  | 0 => .array .int
  | 1 => .int
  | 2 => .int
  | 3 => .int
  | 4 => .int
  | _ => .int
theorem nmX4 : ∀ a, a < 6 → ∀ b, b < 6 → a ≠ b → (TX4 a).2.1 ≠ (TX4 b).2.1 := by decide +kernel
theorem tyX4_ok : ∀ k, k < 6 → parseFieldDescriptor (TX4 k).2.2.1 = some (tyX4 k) := by decide +kernel
abbrev cX4_init : ByteArray := prog_6_method_1_code
def yX4_init : MethodName := ⟨RX4, "<init>", "()V"⟩
abbrev cX4_append : ByteArray := prog_6_method_2_code
def yX4_append : MethodName := ⟨RX4, "append", "(I)I"⟩
abbrev cX4_clear : ByteArray := prog_6_method_3_code
def yX4_clear : MethodName := ⟨RX4, "clear", "()I"⟩
abbrev cX4_readInto : ByteArray := prog_6_method_4_code
def yX4_readInto : MethodName := ⟨RX4, "readInto", "(LThroughTheChain$Yard;)I"⟩
abbrev cX4_readStatement : ByteArray := prog_6_method_5_code
def yX4_readStatement : MethodName := ⟨RX4, "readStatement", "(LThroughTheChain$Yard;)V"⟩
abbrev cX4_readOne : ByteArray := prog_6_method_6_code
def yX4_readOne : MethodName := ⟨RX4, "readOne", "(LThroughTheChain$Yard;)V"⟩
abbrev cX4_readTired : ByteArray := prog_6_method_7_code
def yX4_readTired : MethodName := ⟨RX4, "readTired", "(LThroughTheChain$Yard;)V"⟩
abbrev cX4_readRun : ByteArray := prog_6_method_8_code
def yX4_readRun : MethodName := ⟨RX4, "readRun", "(LThroughTheChain$Yard;)V"⟩
abbrev cX4_numberBehindWord : ByteArray := prog_6_method_9_code
def yX4_numberBehindWord : MethodName := ⟨RX4, "numberBehindWord", "(II)I"⟩
abbrev cX4_number : ByteArray := prog_6_method_10_code
def yX4_number : MethodName := ⟨RX4, "number", "(II)I"⟩
abbrev cX4_valueOfToken : ByteArray := prog_6_method_11_code
def yX4_valueOfToken : MethodName := ⟨RX4, "valueOfToken", "()I"⟩
abbrev cX4_isWord : ByteArray := prog_6_method_12_code
def yX4_isWord : MethodName := ⟨RX4, "isWord", "(Ljava/lang/String;)Z"⟩
abbrev cX4_toNextToken : ByteArray := prog_6_method_13_code
def yX4_toNextToken : MethodName := ⟨RX4, "toNextToken", "()V"⟩
abbrev cX4_sortOf : ByteArray := prog_6_method_14_code
def yX4_sortOf : MethodName := ⟨RX4, "sortOf", "(I)I"⟩
def RX5 : String := "ThroughTheChain$Yard"
def TX5 : u_T := fun k => match k with
  | 0 => ("ThroughTheChain$Yard", "kind", "[I", true)
  | 1 => ("ThroughTheChain$Yard", "grip", "[I", true)
  | 2 => ("ThroughTheChain$Yard", "weight", "[I", true)
  | 3 => ("ThroughTheChain$Yard", "tired", "[I", true)
  | 4 => ("ThroughTheChain$Yard", "extra", "[I", true)
  | 5 => ("ThroughTheChain$Yard", "home", "[I", true)
  | 6 => ("ThroughTheChain$Yard", "line", "[[I", true)
  | 7 => ("ThroughTheChain$Yard", "size", "[I", true)
  | 8 => ("ThroughTheChain$Yard", "people", "I", false)
  | 9 => ("ThroughTheChain$Yard", "yards", "I", false)
  | 10 => ("ThroughTheChain$Yard", "spread", "I", false)
  | 11 => ("ThroughTheChain$Yard", "wrists", "I", false)
  | 12 => ("ThroughTheChain$Yard", "bell", "I", false)
  | 13 => ("ThroughTheChain$Yard", "turn", "I", false)
  | 14 => ("ThroughTheChain$Yard", "runs", "I", false)
  | _ => ("ThroughTheChain$Yard", "seed", "I", false)
def tyX5 : Nat → FieldType := fun k => match k with
  | 0 => .array .int
  | 1 => .array .int
  | 2 => .array .int
  | 3 => .array .int
  | 4 => .array .int
  | 5 => .array .int
  | 6 => .array (.array .int)
  | 7 => .array .int
  | 8 => .int
  | 9 => .int
  | 10 => .int
  | 11 => .int
  | 12 => .int
  | 13 => .int
  | 14 => .int
  | _ => .int
theorem nmX5 : ∀ a, a < 16 → ∀ b, b < 16 → a ≠ b → (TX5 a).2.1 ≠ (TX5 b).2.1 := by decide +kernel
theorem tyX5_ok : ∀ k, k < 16 → parseFieldDescriptor (TX5 k).2.2.1 = some (tyX5 k) := by decide +kernel
abbrev cX5_init : ByteArray := prog_7_method_1_code
def yX5_init : MethodName := ⟨RX5, "<init>", "()V"⟩
abbrev cX5_becomeAs : ByteArray := prog_7_method_2_code
def yX5_becomeAs : MethodName := ⟨RX5, "becomeAs", "(LThroughTheChain$Yard;)V"⟩
abbrev cX5_has : ByteArray := prog_7_method_3_code
def yX5_has : MethodName := ⟨RX5, "has", "(I)Z"⟩
abbrev cX5_hasPlace : ByteArray := prog_7_method_4_code
def yX5_hasPlace : MethodName := ⟨RX5, "hasPlace", "(II)Z"⟩
abbrev cX5_hasJoint : ByteArray := prog_7_method_5_code
def yX5_hasJoint : MethodName := ⟨RX5, "hasJoint", "(II)Z"⟩
abbrev cX5_isCalled : ByteArray := prog_7_method_6_code
def yX5_isCalled : MethodName := ⟨RX5, "isCalled", "(I)Z"⟩
abbrev cX5_add : ByteArray := prog_7_method_7_code
def yX5_add : MethodName := ⟨RX5, "add", "(IIIII)I"⟩
abbrev cX5_enter : ByteArray := prog_7_method_8_code
def yX5_enter : MethodName := ⟨RX5, "enter", "(III)V"⟩
abbrev cX5_leave : ByteArray := prog_7_method_9_code
def yX5_leave : MethodName := ⟨RX5, "leave", "(I)V"⟩
abbrev cX5_placeOf : ByteArray := prog_7_method_10_code
def yX5_placeOf : MethodName := ⟨RX5, "placeOf", "(I)I"⟩
abbrev cX5_changePlaces : ByteArray := prog_7_method_11_code
def yX5_changePlaces : MethodName := ⟨RX5, "changePlaces", "(II)V"⟩
abbrev cX5_sistersIn : ByteArray := prog_7_method_12_code
def yX5_sistersIn : MethodName := ⟨RX5, "sistersIn", "(I)I"⟩
abbrev cX5_holdOf : ByteArray := prog_7_method_13_code
def yX5_holdOf : MethodName := ⟨RX5, "holdOf", "(II)I"⟩
abbrev cX5_strengthBy : ByteArray := prog_7_method_14_code
def yX5_strengthBy : MethodName := ⟨RX5, "strengthBy", "(IZ)I"⟩
abbrev cX5_strengthAt : ByteArray := prog_7_method_15_code
def yX5_strengthAt : MethodName := ⟨RX5, "strengthAt", "(II)I"⟩
abbrev cX5_weakestJoint : ByteArray := prog_7_method_16_code
def yX5_weakestJoint : MethodName := ⟨RX5, "weakestJoint", "(I)I"⟩
abbrev cX5_strongestJoint : ByteArray := prog_7_method_17_code
def yX5_strongestJoint : MethodName := ⟨RX5, "strongestJoint", "(I)I"⟩
abbrev cX5_leastStrength : ByteArray := prog_7_method_18_code
def yX5_leastStrength : MethodName := ⟨RX5, "leastStrength", "(I)I"⟩
abbrev cX5_forceOf : ByteArray := prog_7_method_19_code
def yX5_forceOf : MethodName := ⟨RX5, "forceOf", "(I)I"⟩
abbrev cX5_oddsAgainst : ByteArray := prog_7_method_20_code
def yX5_oddsAgainst : MethodName := ⟨RX5, "oddsAgainst", "(II)I"⟩
abbrev cX5_oddsOf : ByteArray := prog_7_method_21_code
def yX5_oddsOf : MethodName := ⟨RX5, "oddsOf", "(II)I"⟩
abbrev cX5_mostForceful : ByteArray := prog_7_method_22_code
def yX5_mostForceful : MethodName := ⟨RX5, "mostForceful", "(I)I"⟩
abbrev cX5_firmestPair : ByteArray := prog_7_method_23_code
def yX5_firmestPair : MethodName := ⟨RX5, "firmestPair", "()I"⟩
abbrev cX5_jointFor : ByteArray := prog_7_method_24_code
def yX5_jointFor : MethodName := ⟨RX5, "jointFor", "(I)I"⟩
abbrev cX5_sideTaken : ByteArray := prog_7_method_25_code
def yX5_sideTaken : MethodName := ⟨RX5, "sideTaken", "(I)I"⟩
abbrev cX5_whoIsCalled : ByteArray := prog_7_method_26_code
def yX5_whoIsCalled : MethodName := ⟨RX5, "whoIsCalled", "(I)I"⟩
abbrev cX5_isOver : ByteArray := prog_7_method_27_code
def yX5_isOver : MethodName := ⟨RX5, "isOver", "()Z"⟩
abbrev cX5_winner : ByteArray := prog_7_method_28_code
def yX5_winner : MethodName := ⟨RX5, "winner", "()I"⟩
abbrev cX5_leader : ByteArray := prog_7_method_29_code
def yX5_leader : MethodName := ⟨RX5, "leader", "()I"⟩
abbrev cX5_mayRun : ByteArray := prog_7_method_30_code
def yX5_mayRun : MethodName := ⟨RX5, "mayRun", "(II)Z"⟩
abbrev cX5_canEnd : ByteArray := prog_7_method_31_code
def yX5_canEnd : MethodName := ⟨RX5, "canEnd", "(III)Z"⟩
abbrev cX5_comeToPass : ByteArray := prog_7_method_32_code
def yX5_comeToPass : MethodName := ⟨RX5, "comeToPass", "(III)V"⟩
abbrev cX5_runByDraw : ByteArray := prog_7_method_33_code
def yX5_runByDraw : MethodName := ⟨RX5, "runByDraw", "(III)Z"⟩
abbrev cX5_drawBelow : ByteArray := prog_7_method_34_code
def yX5_drawBelow : MethodName := ⟨RX5, "drawBelow", "(I)I"⟩
abbrev cX5_tire : ByteArray := prog_7_method_35_code
def yX5_tire : MethodName := ⟨RX5, "tire", "(I)V"⟩
abbrev cX5_restAll : ByteArray := prog_7_method_36_code
def yX5_restAll : MethodName := ⟨RX5, "restAll", "(I)I"⟩
abbrev cX5_allTired : ByteArray := prog_7_method_37_code
def yX5_allTired : MethodName := ⟨RX5, "allTired", "()I"⟩
abbrev cX5_mostTired : ByteArray := prog_7_method_38_code
def yX5_mostTired : MethodName := ⟨RX5, "mostTired", "()I"⟩
def RX6 : String := "ThroughTheChain"
def TX6 : u_T := fun k => match k with
  | 0 => ("ThroughTheChain", "now", "LThroughTheChain$Yard;", true)
  | 1 => ("ThroughTheChain", "kept", "LThroughTheChain$Yard;", true)
  | 2 => ("ThroughTheChain", "thought", "LThroughTheChain$Yard;", true)
  | 3 => ("ThroughTheChain", "player", "LThroughTheChain$Player;", true)
  | 4 => ("ThroughTheChain", "ahead", "LThroughTheChain$Game;", true)
  | 5 => ("ThroughTheChain", "orders", "LThroughTheChain$Orders;", true)
  | 6 => ("ThroughTheChain", "tape", "LThroughTheChain$Tape;", true)
  | 7 => ("ThroughTheChain", "shelves", "[LThroughTheChain$Shelf;", true)
  | 8 => ("ThroughTheChain", "refusals", "[I", true)
  | _ => ("ThroughTheChain", "isKept", "Z", false)
def tyX6 : Nat → FieldType := fun k => match k with
  | 0 => .object "ThroughTheChain$Yard"
  | 1 => .object "ThroughTheChain$Yard"
  | 2 => .object "ThroughTheChain$Yard"
  | 3 => .object "ThroughTheChain$Player"
  | 4 => .object "ThroughTheChain$Game"
  | 5 => .object "ThroughTheChain$Orders"
  | 6 => .object "ThroughTheChain$Tape"
  | 7 => .array (.object "ThroughTheChain$Shelf")
  | 8 => .array .int
  | _ => .boolean
theorem nmX6 : ∀ a, a < 10 → ∀ b, b < 10 → a ≠ b → (TX6 a).2.1 ≠ (TX6 b).2.1 := by decide +kernel
theorem tyX6_ok : ∀ k, k < 10 → parseFieldDescriptor (TX6 k).2.2.1 = some (tyX6 k) := by decide +kernel
abbrev cX6_init : ByteArray := prog_1_method_1_code
def yX6_init : MethodName := ⟨RX6, "<init>", "()V"⟩
abbrev cX6_row : ByteArray := prog_1_method_2_code
def yX6_row : MethodName := ⟨RX6, "row", "(III)I"⟩
abbrev cX6_set : ByteArray := prog_1_method_3_code
def yX6_set : MethodName := ⟨RX6, "set", "(IIJ)I"⟩
abbrev cX6_copy : ByteArray := prog_1_method_4_code
def yX6_copy : MethodName := ⟨RX6, "copy", "(IIIII)I"⟩
abbrev cX6_element : ByteArray := prog_1_method_5_code
def yX6_element : MethodName := ⟨RX6, "element", "(II)J"⟩
abbrev cX6_holds : ByteArray := prog_1_method_6_code
def yX6_holds : MethodName := ⟨RX6, "holds", "(I)I"⟩
abbrev cX6_show : ByteArray := prog_1_method_7_code
def yX6_show : MethodName := ⟨RX6, "show", "(II)I"⟩
abbrev cX6_says : ByteArray := prog_1_method_8_code
def yX6_says : MethodName := ⟨RX6, "says", "(II)I"⟩
abbrev cX6_one : ByteArray := prog_1_method_9_code
def yX6_one : MethodName := ⟨RX6, "one", "(IIIII)I"⟩
abbrev cX6_tell : ByteArray := prog_1_method_10_code
def yX6_tell : MethodName := ⟨RX6, "tell", "(III)I"⟩
abbrev cX6_ask : ByteArray := prog_1_method_11_code
def yX6_ask : MethodName := ⟨RX6, "ask", "(II)I"⟩
abbrev cX6_feed : ByteArray := prog_1_method_12_code
def yX6_feed : MethodName := ⟨RX6, "feed", "(I)I"⟩
abbrev cX6_wipe : ByteArray := prog_1_method_13_code
def yX6_wipe : MethodName := ⟨RX6, "wipe", "()I"⟩
abbrev cX6_yard : ByteArray := prog_1_method_14_code
def yX6_yard : MethodName := ⟨RX6, "yard", "()I"⟩
abbrev cX6_oneOf : ByteArray := prog_1_method_15_code
def yX6_oneOf : MethodName := ⟨RX6, "oneOf", "(II)I"⟩
abbrev cX6_chainOf : ByteArray := prog_1_method_16_code
def yX6_chainOf : MethodName := ⟨RX6, "chainOf", "(II)I"⟩
abbrev cX6_strength : ByteArray := prog_1_method_17_code
def yX6_strength : MethodName := ⟨RX6, "strength", "(II)I"⟩
abbrev cX6_weakest : ByteArray := prog_1_method_18_code
def yX6_weakest : MethodName := ⟨RX6, "weakest", "(I)I"⟩
abbrev cX6_strongest : ByteArray := prog_1_method_19_code
def yX6_strongest : MethodName := ⟨RX6, "strongest", "(I)I"⟩
abbrev cX6_hardest : ByteArray := prog_1_method_20_code
def yX6_hardest : MethodName := ⟨RX6, "hardest", "(I)I"⟩
abbrev cX6_odds : ByteArray := prog_1_method_21_code
def yX6_odds : MethodName := ⟨RX6, "odds", "(II)I"⟩
abbrev cX6_at : ByteArray := prog_1_method_22_code
def yX6_at : MethodName := ⟨RX6, "at", "(I)I"⟩
abbrev cX6_take : ByteArray := prog_1_method_23_code
def yX6_take : MethodName := ⟨RX6, "take", "(I)I"⟩
abbrev cX6_call : ByteArray := prog_1_method_24_code
def yX6_call : MethodName := ⟨RX6, "call", "()I"⟩
abbrev cX6_won : ByteArray := prog_1_method_25_code
def yX6_won : MethodName := ⟨RX6, "won", "()I"⟩
abbrev cX6_over : ByteArray := prog_1_method_26_code
def yX6_over : MethodName := ⟨RX6, "over", "()I"⟩
abbrev cX6_play : ByteArray := prog_1_method_27_code
def yX6_play : MethodName := ⟨RX6, "play", "(II)I"⟩
abbrev cX6_stand : ByteArray := prog_1_method_28_code
def yX6_stand : MethodName := ⟨RX6, "stand", "(II)I"⟩
abbrev cX6_worth : ByteArray := prog_1_method_29_code
def yX6_worth : MethodName := ⟨RX6, "worth", "(I)I"⟩
abbrev cX6_move : ByteArray := prog_1_method_30_code
def yX6_move : MethodName := ⟨RX6, "move", "(II)I"⟩
abbrev cX6_pair : ByteArray := prog_1_method_31_code
def yX6_pair : MethodName := ⟨RX6, "pair", "()I"⟩
abbrev cX6_tiredest : ByteArray := prog_1_method_32_code
def yX6_tiredest : MethodName := ⟨RX6, "tiredest", "()I"⟩
abbrev cX6_spreadFor : ByteArray := prog_1_method_33_code
def yX6_spreadFor : MethodName := ⟨RX6, "spreadFor", "(II)I"⟩
abbrev cX6_yardsFor : ByteArray := prog_1_method_34_code
def yX6_yardsFor : MethodName := ⟨RX6, "yardsFor", "(II)I"⟩
abbrev cX6_leads : ByteArray := prog_1_method_35_code
def yX6_leads : MethodName := ⟨RX6, "leads", "(I)I"⟩
abbrev cX6_game : ByteArray := prog_1_method_36_code
def yX6_game : MethodName := ⟨RX6, "game", "(I)I"⟩
abbrev cX6_first : ByteArray := prog_1_method_37_code
def yX6_first : MethodName := ⟨RX6, "first", "(I)I"⟩
abbrev cX6_together : ByteArray := prog_1_method_38_code
def yX6_together : MethodName := ⟨RX6, "together", "(I)I"⟩
abbrev cX6_swap : ByteArray := prog_1_method_39_code
def yX6_swap : MethodName := ⟨RX6, "swap", "(II)I"⟩
abbrev cX6_could : ByteArray := prog_1_method_40_code
def yX6_could : MethodName := ⟨RX6, "could", "(II)I"⟩
abbrev cX6_judge : ByteArray := prog_1_method_41_code
def yX6_judge : MethodName := ⟨RX6, "judge", "(II)I"⟩
abbrev cX6_behind : ByteArray := prog_1_method_42_code
def yX6_behind : MethodName := ⟨RX6, "behind", "(III)I"⟩
abbrev cX6_booked : ByteArray := prog_1_method_43_code
def yX6_booked : MethodName := ⟨RX6, "booked", "(II)I"⟩
abbrev cX6_order : ByteArray := prog_1_method_44_code
def yX6_order : MethodName := ⟨RX6, "order", "(II)I"⟩
abbrev cX6_best : ByteArray := prog_1_method_45_code
def yX6_best : MethodName := ⟨RX6, "best", "(I)I"⟩
abbrev cX6_run : ByteArray := prog_1_method_46_code
def yX6_run : MethodName := ⟨RX6, "run", "(III)I"⟩
abbrev cX6_runs : ByteArray := prog_1_method_47_code
def yX6_runs : MethodName := ⟨RX6, "runs", "(I)I"⟩
abbrev cX6_rest : ByteArray := prog_1_method_48_code
def yX6_rest : MethodName := ⟨RX6, "rest", "(I)I"⟩
abbrev cX6_again : ByteArray := prog_1_method_49_code
def yX6_again : MethodName := ⟨RX6, "again", "()I"⟩
abbrev cX6_seed : ByteArray := prog_1_method_50_code
def yX6_seed : MethodName := ⟨RX6, "seed", "(I)I"⟩
abbrev cX6_image : ByteArray := prog_1_method_51_code
def yX6_image : MethodName := ⟨RX6, "image", "()I"⟩
abbrev cX6_back : ByteArray := prog_1_method_52_code
def yX6_back : MethodName := ⟨RX6, "back", "()I"⟩
abbrev cX6_status : ByteArray := prog_1_method_53_code
def yX6_status : MethodName := ⟨RX6, "status", "(I)I"⟩
abbrev cX6_refuse : ByteArray := prog_1_method_54_code
def yX6_refuse : MethodName := ⟨RX6, "refuse", "(I)I"⟩
abbrev cX6_isShelf : ByteArray := prog_1_method_55_code
def yX6_isShelf : MethodName := ⟨RX6, "isShelf", "(I)Z"⟩
abbrev cX6_isChain : ByteArray := prog_1_method_56_code
def yX6_isChain : MethodName := ⟨RX6, "isChain", "(I)Z"⟩
abbrev cX6_isRule : ByteArray := prog_1_method_57_code
def yX6_isRule : MethodName := ⟨RX6, "isRule", "(I)Z"⟩
abbrev cX6_isLevel : ByteArray := prog_1_method_58_code
def yX6_isLevel : MethodName := ⟨RX6, "isLevel", "(I)Z"⟩
abbrev cX6_isUnder : ByteArray := prog_1_method_59_code
def yX6_isUnder : MethodName := ⟨RX6, "isUnder", "(II)Z"⟩
abbrev cX6_mayBeAsked : ByteArray := prog_1_method_60_code
def yX6_mayBeAsked : MethodName := ⟨RX6, "mayBeAsked", "(II)Z"⟩
abbrev cX6_faultOfRow : ByteArray := prog_1_method_61_code
def yX6_faultOfRow : MethodName := ⟨RX6, "faultOfRow", "(II)I"⟩
abbrev cX6_faultOfRunner : ByteArray := prog_1_method_62_code
def yX6_faultOfRunner : MethodName := ⟨RX6, "faultOfRunner", "(II)I"⟩
abbrev cX6_followBook : ByteArray := prog_1_method_63_code
def yX6_followBook : MethodName := ⟨RX6, "followBook", "(LThroughTheChain$Shelf;I)I"⟩
abbrev cX6_isOrderOf : ByteArray := prog_1_method_64_code
def yX6_isOrderOf : MethodName := ⟨RX6, "isOrderOf", "(I[J)Z"⟩
abbrev cX6_ordersTogether : ByteArray := prog_1_method_65_code
def yX6_ordersTogether : MethodName := ⟨RX6, "ordersTogether", "(II)I"⟩
abbrev cX6_shelvesInUse : ByteArray := prog_1_method_66_code
def yX6_shelvesInUse : MethodName := ⟨RX6, "shelvesInUse", "()I"⟩
def RX7 : String := "ThroughTheChainModel"
def TX7 : u_T := fun k => match k with
  | 0 => ("ThroughTheChainModel", "shelf", "[I", true)
  | 1 => ("ThroughTheChainModel", "rowSort", "[I", true)
  | 2 => ("ThroughTheChainModel", "rowSize", "[I", true)
  | 3 => ("ThroughTheChainModel", "rows", "[[J", true)
  | 4 => ("ThroughTheChainModel", "moved", "[J", true)
  | 5 => ("ThroughTheChainModel", "shown", "[I", true)
  | 6 => ("ThroughTheChainModel", "tape", "[I", true)
  | 7 => ("ThroughTheChainModel", "tapeSize", "I", false)
  | 8 => ("ThroughTheChainModel", "refused", "[I", true)
  | 9 => ("ThroughTheChainModel", "people", "I", false)
  | 10 => ("ThroughTheChainModel", "kind", "[I", true)
  | 11 => ("ThroughTheChainModel", "grip", "[I", true)
  | 12 => ("ThroughTheChainModel", "weight", "[I", true)
  | 13 => ("ThroughTheChainModel", "tired", "[I", true)
  | 14 => ("ThroughTheChainModel", "by", "[I", true)
  | 15 => ("ThroughTheChainModel", "at", "[[I", true)
  | 16 => ("ThroughTheChainModel", "size", "[I", true)
  | 17 => ("ThroughTheChainModel", "yards", "I", false)
  | 18 => ("ThroughTheChainModel", "spread", "I", false)
  | 19 => ("ThroughTheChainModel", "wrists", "I", false)
  | 20 => ("ThroughTheChainModel", "bell", "I", false)
  | 21 => ("ThroughTheChainModel", "turn", "I", false)
  | 22 => ("ThroughTheChainModel", "runs", "I", false)
  | 23 => ("ThroughTheChainModel", "seed", "I", false)
  | 24 => ("ThroughTheChainModel", "kept", "LThroughTheChainModel;", false)
  | 25 => ("ThroughTheChainModel", "tried", "LThroughTheChainModel;", false)
  | 26 => ("ThroughTheChainModel", "deeper", "LThroughTheChainModel;", false)
  | 27 => ("ThroughTheChainModel", "here", "I", false)
  | 28 => ("ThroughTheChainModel", "token", "I", false)
  | 29 => ("ThroughTheChainModel", "from", "I", false)
  | 30 => ("ThroughTheChainModel", "figures", "I", false)
  | 31 => ("ThroughTheChainModel", "fault", "I", false)
  | 32 => ("ThroughTheChainModel", "told", "[I", true)
  | 33 => ("ThroughTheChainModel", "statements", "I", false)
  | 34 => ("ThroughTheChainModel", "stood", "[I", true)
  | 35 => ("ThroughTheChainModel", "bestStood", "[I", true)
  | 36 => ("ThroughTheChainModel", "bestLeast", "I", false)
  | _ => ("ThroughTheChainModel", "gameCall", "I", false)
def tyX7 : Nat → FieldType := fun k => match k with
  | 0 => .array .int
  | 1 => .array .int
  | 2 => .array .int
  | 3 => .array (.array .long)
  | 4 => .array .long
  | 5 => .array .int
  | 6 => .array .int
  | 7 => .int
  | 8 => .array .int
  | 9 => .int
  | 10 => .array .int
  | 11 => .array .int
  | 12 => .array .int
  | 13 => .array .int
  | 14 => .array .int
  | 15 => .array (.array .int)
  | 16 => .array .int
  | 17 => .int
  | 18 => .int
  | 19 => .int
  | 20 => .int
  | 21 => .int
  | 22 => .int
  | 23 => .int
  | 24 => .object "ThroughTheChainModel"
  | 25 => .object "ThroughTheChainModel"
  | 26 => .object "ThroughTheChainModel"
  | 27 => .int
  | 28 => .int
  | 29 => .int
  | 30 => .int
  | 31 => .int
  | 32 => .array .int
  | 33 => .int
  | 34 => .array .int
  | 35 => .array .int
  | 36 => .int
  | _ => .int
theorem nmX7 : ∀ a, a < 38 → ∀ b, b < 38 → a ≠ b → (TX7 a).2.1 ≠ (TX7 b).2.1 := by decide +kernel
theorem tyX7_ok : ∀ k, k < 38 → parseFieldDescriptor (TX7 k).2.2.1 = some (tyX7 k) := by decide +kernel
abbrev cX7_init : ByteArray := prog_9_method_1_code
def yX7_init : MethodName := ⟨RX7, "<init>", "()V"⟩
abbrev cX7_refuse : ByteArray := prog_9_method_2_code
def yX7_refuse : MethodName := ⟨RX7, "refuse", "(I)I"⟩
abbrev cX7_in : ByteArray := prog_9_method_3_code
def yX7_in : MethodName := ⟨RX7, "in", "(JJJ)Z"⟩
abbrev cX7_isOne : ByteArray := prog_9_method_4_code
def yX7_isOne : MethodName := ⟨RX7, "isOne", "(I)Z"⟩
abbrev cX7_placeOf : ByteArray := prog_9_method_5_code
def yX7_placeOf : MethodName := ⟨RX7, "placeOf", "(I)I"⟩
abbrev cX7_chainAt : ByteArray := prog_9_method_6_code
def yX7_chainAt : MethodName := ⟨RX7, "chainAt", "(I)I"⟩
abbrev cX7_row : ByteArray := prog_9_method_7_code
def yX7_row : MethodName := ⟨RX7, "row", "(III)I"⟩
abbrev cX7_fit : ByteArray := prog_9_method_8_code
def yX7_fit : MethodName := ⟨RX7, "fit", "(IJ)J"⟩
abbrev cX7_noRow : ByteArray := prog_9_method_9_code
def yX7_noRow : MethodName := ⟨RX7, "noRow", "(I)I"⟩
abbrev cX7_set : ByteArray := prog_9_method_10_code
def yX7_set : MethodName := ⟨RX7, "set", "(IIJ)I"⟩
abbrev cX7_copy : ByteArray := prog_9_method_11_code
def yX7_copy : MethodName := ⟨RX7, "copy", "(IIIII)I"⟩
abbrev cX7_element : ByteArray := prog_9_method_12_code
def yX7_element : MethodName := ⟨RX7, "element", "(II)J"⟩
abbrev cX7_holds : ByteArray := prog_9_method_13_code
def yX7_holds : MethodName := ⟨RX7, "holds", "(I)I"⟩
abbrev cX7_show : ByteArray := prog_9_method_14_code
def yX7_show : MethodName := ⟨RX7, "show", "(II)I"⟩
abbrev cX7_isUnder : ByteArray := prog_9_method_15_code
def yX7_isUnder : MethodName := ⟨RX7, "isUnder", "(II)Z"⟩
abbrev cX7_says : ByteArray := prog_9_method_16_code
def yX7_says : MethodName := ⟨RX7, "says", "(II)I"⟩
abbrev cX7_addOne : ByteArray := prog_9_method_17_code
def yX7_addOne : MethodName := ⟨RX7, "addOne", "(IIIII)V"⟩
abbrev cX7_one : ByteArray := prog_9_method_18_code
def yX7_one : MethodName := ⟨RX7, "one", "(IIIII)I"⟩
abbrev cX7_tell : ByteArray := prog_9_method_19_code
def yX7_tell : MethodName := ⟨RX7, "tell", "(III)I"⟩
abbrev cX7_mayAsk : ByteArray := prog_9_method_20_code
def yX7_mayAsk : MethodName := ⟨RX7, "mayAsk", "(II)Z"⟩
abbrev cX7_asked : ByteArray := prog_9_method_21_code
def yX7_asked : MethodName := ⟨RX7, "asked", "(I)I"⟩
abbrev cX7_becomes : ByteArray := prog_9_method_22_code
def yX7_becomes : MethodName := ⟨RX7, "becomes", "(II)V"⟩
abbrev cX7_ask : ByteArray := prog_9_method_23_code
def yX7_ask : MethodName := ⟨RX7, "ask", "(II)I"⟩
abbrev cX7_feed : ByteArray := prog_9_method_24_code
def yX7_feed : MethodName := ⟨RX7, "feed", "(I)I"⟩
abbrev cX7_wipe : ByteArray := prog_9_method_25_code
def yX7_wipe : MethodName := ⟨RX7, "wipe", "()I"⟩
abbrev cX7_isLetter : ByteArray := prog_9_method_26_code
def yX7_isLetter : MethodName := ⟨RX7, "isLetter", "(I)Z"⟩
abbrev cX7_isDigit : ByteArray := prog_9_method_27_code
def yX7_isDigit : MethodName := ⟨RX7, "isDigit", "(I)Z"⟩
abbrev cX7_look : ByteArray := prog_9_method_28_code
def yX7_look : MethodName := ⟨RX7, "look", "()V"⟩
abbrev cX7_wrong : ByteArray := prog_9_method_29_code
def yX7_wrong : MethodName := ⟨RX7, "wrong", "()Z"⟩
abbrev cX7_isWord : ByteArray := prog_9_method_30_code
def yX7_isWord : MethodName := ⟨RX7, "isWord", "(Ljava/lang/String;)Z"⟩
abbrev cX7_number : ByteArray := prog_9_method_31_code
def yX7_number : MethodName := ⟨RX7, "number", "(III)Z"⟩
abbrev cX7_tells : ByteArray := prog_9_method_32_code
def yX7_tells : MethodName := ⟨RX7, "tells", "(II)Z"⟩
abbrev cX7_asks : ByteArray := prog_9_method_33_code
def yX7_asks : MethodName := ⟨RX7, "asks", "(I)Z"⟩
abbrev cX7_runTold : ByteArray := prog_9_method_34_code
def yX7_runTold : MethodName := ⟨RX7, "runTold", "()Z"⟩
abbrev cX7_statement : ByteArray := prog_9_method_35_code
def yX7_statement : MethodName := ⟨RX7, "statement", "()Z"⟩
abbrev cX7_readAll : ByteArray := prog_9_method_36_code
def yX7_readAll : MethodName := ⟨RX7, "readAll", "()Z"⟩
abbrev cX7_yard : ByteArray := prog_9_method_37_code
def yX7_yard : MethodName := ⟨RX7, "yard", "()I"⟩
abbrev cX7_oneOf : ByteArray := prog_9_method_38_code
def yX7_oneOf : MethodName := ⟨RX7, "oneOf", "(II)I"⟩
abbrev cX7_chainOf : ByteArray := prog_9_method_39_code
def yX7_chainOf : MethodName := ⟨RX7, "chainOf", "(II)I"⟩
abbrev cX7_hold : ByteArray := prog_9_method_40_code
def yX7_hold : MethodName := ⟨RX7, "hold", "(II)I"⟩
abbrev cX7_force : ByteArray := prog_9_method_41_code
def yX7_force : MethodName := ⟨RX7, "force", "(I)I"⟩
abbrev cX7_strengthOf : ByteArray := prog_9_method_42_code
def yX7_strengthOf : MethodName := ⟨RX7, "strengthOf", "([III)I"⟩
abbrev cX7_isJoint : ByteArray := prog_9_method_43_code
def yX7_isJoint : MethodName := ⟨RX7, "isJoint", "(II)Z"⟩
abbrev cX7_strength : ByteArray := prog_9_method_44_code
def yX7_strength : MethodName := ⟨RX7, "strength", "(II)I"⟩
abbrev cX7_leastOf : ByteArray := prog_9_method_45_code
def yX7_leastOf : MethodName := ⟨RX7, "leastOf", "([II)I"⟩
abbrev cX7_weakest : ByteArray := prog_9_method_46_code
def yX7_weakest : MethodName := ⟨RX7, "weakest", "(I)I"⟩
abbrev cX7_strongest : ByteArray := prog_9_method_47_code
def yX7_strongest : MethodName := ⟨RX7, "strongest", "(I)I"⟩
abbrev cX7_hardest : ByteArray := prog_9_method_48_code
def yX7_hardest : MethodName := ⟨RX7, "hardest", "(I)I"⟩
abbrev cX7_pair : ByteArray := prog_9_method_49_code
def yX7_pair : MethodName := ⟨RX7, "pair", "()I"⟩
abbrev cX7_tiredest : ByteArray := prog_9_method_50_code
def yX7_tiredest : MethodName := ⟨RX7, "tiredest", "()I"⟩
abbrev cX7_spreadFor : ByteArray := prog_9_method_51_code
def yX7_spreadFor : MethodName := ⟨RX7, "spreadFor", "(II)I"⟩
abbrev cX7_yardsFor : ByteArray := prog_9_method_52_code
def yX7_yardsFor : MethodName := ⟨RX7, "yardsFor", "(II)I"⟩
abbrev cX7_oddsOf : ByteArray := prog_9_method_53_code
def yX7_oddsOf : MethodName := ⟨RX7, "oddsOf", "(II)I"⟩
abbrev cX7_odds : ByteArray := prog_9_method_54_code
def yX7_odds : MethodName := ⟨RX7, "odds", "(II)I"⟩
abbrev cX7_isOver : ByteArray := prog_9_method_55_code
def yX7_isOver : MethodName := ⟨RX7, "isOver", "()Z"⟩
abbrev cX7_wonNow : ByteArray := prog_9_method_56_code
def yX7_wonNow : MethodName := ⟨RX7, "wonNow", "()I"⟩
abbrev cX7_won : ByteArray := prog_9_method_57_code
def yX7_won : MethodName := ⟨RX7, "won", "()I"⟩
abbrev cX7_over : ByteArray := prog_9_method_58_code
def yX7_over : MethodName := ⟨RX7, "over", "()I"⟩
abbrev cX7_atOf : ByteArray := prog_9_method_59_code
def yX7_atOf : MethodName := ⟨RX7, "atOf", "(I)I"⟩
abbrev cX7_at : ByteArray := prog_9_method_60_code
def yX7_at : MethodName := ⟨RX7, "at", "(I)I"⟩
abbrev cX7_takeAt : ByteArray := prog_9_method_61_code
def yX7_takeAt : MethodName := ⟨RX7, "takeAt", "(I)I"⟩
abbrev cX7_take : ByteArray := prog_9_method_62_code
def yX7_take : MethodName := ⟨RX7, "take", "(I)I"⟩
abbrev cX7_callBy : ByteArray := prog_9_method_63_code
def yX7_callBy : MethodName := ⟨RX7, "callBy", "(I)I"⟩
abbrev cX7_call : ByteArray := prog_9_method_64_code
def yX7_call : MethodName := ⟨RX7, "call", "()I"⟩
abbrev cX7_goesOut : ByteArray := prog_9_method_65_code
def yX7_goesOut : MethodName := ⟨RX7, "goesOut", "(II)V"⟩
abbrev cX7_tires : ByteArray := prog_9_method_66_code
def yX7_tires : MethodName := ⟨RX7, "tires", "(I)V"⟩
abbrev cX7_ends : ByteArray := prog_9_method_67_code
def yX7_ends : MethodName := ⟨RX7, "ends", "()V"⟩
abbrev cX7_runsHeld : ByteArray := prog_9_method_68_code
def yX7_runsHeld : MethodName := ⟨RX7, "runsHeld", "(II)V"⟩
abbrev cX7_runsTorn : ByteArray := prog_9_method_69_code
def yX7_runsTorn : MethodName := ⟨RX7, "runsTorn", "(III)V"⟩
abbrev cX7_fresh : ByteArray := prog_9_method_70_code
def yX7_fresh : MethodName := ⟨RX7, "fresh", "()LThroughTheChainModel;"⟩
abbrev cX7_plays : ByteArray := prog_9_method_71_code
def yX7_plays : MethodName := ⟨RX7, "plays", "(I)V"⟩
abbrev cX7_leads : ByteArray := prog_9_method_72_code
def yX7_leads : MethodName := ⟨RX7, "leads", "(I)I"⟩
abbrev cX7_play : ByteArray := prog_9_method_73_code
def yX7_play : MethodName := ⟨RX7, "play", "(II)I"⟩
abbrev cX7_seekStand : ByteArray := prog_9_method_74_code
def yX7_seekStand : MethodName := ⟨RX7, "seekStand", "(III)V"⟩
abbrev cX7_findStand : ByteArray := prog_9_method_75_code
def yX7_findStand : MethodName := ⟨RX7, "findStand", "(I)V"⟩
abbrev cX7_stand : ByteArray := prog_9_method_76_code
def yX7_stand : MethodName := ⟨RX7, "stand", "(II)I"⟩
abbrev cX7_worth : ByteArray := prog_9_method_77_code
def yX7_worth : MethodName := ⟨RX7, "worth", "(I)I"⟩
abbrev cX7_togetherIn : ByteArray := prog_9_method_78_code
def yX7_togetherIn : MethodName := ⟨RX7, "togetherIn", "(IIIZ)I"⟩
abbrev cX7_together : ByteArray := prog_9_method_79_code
def yX7_together : MethodName := ⟨RX7, "together", "(I)I"⟩
abbrev cX7_changes : ByteArray := prog_9_method_80_code
def yX7_changes : MethodName := ⟨RX7, "changes", "(II)V"⟩
abbrev cX7_swap : ByteArray := prog_9_method_81_code
def yX7_swap : MethodName := ⟨RX7, "swap", "(II)I"⟩
abbrev cX7_gameOf : ByteArray := prog_9_method_82_code
def yX7_gameOf : MethodName := ⟨RX7, "gameOf", "(I)I"⟩
abbrev cX7_leastBy : ByteArray := prog_9_method_83_code
def yX7_leastBy : MethodName := ⟨RX7, "leastBy", "(II)I"⟩
abbrev cX7_game : ByteArray := prog_9_method_84_code
def yX7_game : MethodName := ⟨RX7, "game", "(I)I"⟩
abbrev cX7_first : ByteArray := prog_9_method_85_code
def yX7_first : MethodName := ⟨RX7, "first", "(I)I"⟩
abbrev cX7_could : ByteArray := prog_9_method_86_code
def yX7_could : MethodName := ⟨RX7, "could", "(II)I"⟩
abbrev cX7_noBook : ByteArray := prog_9_method_87_code
def yX7_noBook : MethodName := ⟨RX7, "noBook", "(II)I"⟩
abbrev cX7_goesTold : ByteArray := prog_9_method_88_code
def yX7_goesTold : MethodName := ⟨RX7, "goesTold", "(J)Z"⟩
abbrev cX7_wrongIn : ByteArray := prog_9_method_89_code
def yX7_wrongIn : MethodName := ⟨RX7, "wrongIn", "([JI)I"⟩
abbrev cX7_judge : ByteArray := prog_9_method_90_code
def yX7_judge : MethodName := ⟨RX7, "judge", "(II)I"⟩
abbrev cX7_behind : ByteArray := prog_9_method_91_code
def yX7_behind : MethodName := ⟨RX7, "behind", "(III)I"⟩
abbrev cX7_booked : ByteArray := prog_9_method_92_code
def yX7_booked : MethodName := ⟨RX7, "booked", "(II)I"⟩
abbrev cX7_move : ByteArray := prog_9_method_93_code
def yX7_move : MethodName := ⟨RX7, "move", "(II)I"⟩
abbrev cX7_order : ByteArray := prog_9_method_94_code
def yX7_order : MethodName := ⟨RX7, "order", "(II)I"⟩
abbrev cX7_best : ByteArray := prog_9_method_95_code
def yX7_best : MethodName := ⟨RX7, "best", "(I)I"⟩
abbrev cX7_below : ByteArray := prog_9_method_96_code
def yX7_below : MethodName := ⟨RX7, "below", "(I)I"⟩
abbrev cX7_goesRun : ByteArray := prog_9_method_97_code
def yX7_goesRun : MethodName := ⟨RX7, "goesRun", "(III)Z"⟩
abbrev cX7_run : ByteArray := prog_9_method_98_code
def yX7_run : MethodName := ⟨RX7, "run", "(III)I"⟩
abbrev cX7_runs : ByteArray := prog_9_method_99_code
def yX7_runs : MethodName := ⟨RX7, "runs", "(I)I"⟩
abbrev cX7_rest : ByteArray := prog_9_method_100_code
def yX7_rest : MethodName := ⟨RX7, "rest", "(I)I"⟩
abbrev cX7_again : ByteArray := prog_9_method_101_code
def yX7_again : MethodName := ⟨RX7, "again", "()I"⟩
abbrev cX7_seed : ByteArray := prog_9_method_102_code
def yX7_seed : MethodName := ⟨RX7, "seed", "(I)I"⟩
abbrev cX7_copied : ByteArray := prog_9_method_103_code
def yX7_copied : MethodName := ⟨RX7, "copied", "([I[I)V"⟩
abbrev cX7_takeFrom : ByteArray := prog_9_method_104_code
def yX7_takeFrom : MethodName := ⟨RX7, "takeFrom", "(LThroughTheChainModel;)V"⟩
abbrev cX7_image : ByteArray := prog_9_method_105_code
def yX7_image : MethodName := ⟨RX7, "image", "()I"⟩
abbrev cX7_back : ByteArray := prog_9_method_106_code
def yX7_back : MethodName := ⟨RX7, "back", "()I"⟩
abbrev cX7_status : ByteArray := prog_9_method_107_code
def yX7_status : MethodName := ⟨RX7, "status", "(I)I"⟩
def RL : String := "ThroughTheChainLaw"
abbrev cL_law : ByteArray := code
def yL_law : MethodName := ⟨RL, "law", "([I)Z"⟩
abbrev vwCl : List vw_C := [(RX0, TX0, 2), (RX1, TX1, 6), (RX2, TX2, 3), (RX3, TX3, 3), (RX4, TX4, 6), (RX5, TX5, 16), (RX6, TX6, 10), (RX7, TX7, 38)]
