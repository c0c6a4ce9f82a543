section
-- ===== PART A: goes FIRST, ahead of the names: the tables' words, and 'selects' of the private methods out of them =====
/-- a private method of a class that the tables say can be made, by its rows of tables_1 -/
def lw_okq (q : MethodName × Nat) : Prop := (q.1.cls ≠ "java/lang/invoke/MethodHandle" ∧ q.1.cls ≠ "java/lang/invoke/VarHandle") ∧ Cond.instantiable q.1.cls q.2 ∈ tables_1 ∧ Cond.privateMethod q.1 ∈ tables_1 ∧ Cond.instanceMethod q.1 ∈ tables_1
theorem lw_p0 : lw_okq (⟨"DunkedBiscuits", "refused", "(I)I"⟩, 15) := ⟨⟨by decide +kernel, by decide +kernel⟩, List.mem_of_getElem? (i := 16) (by decide +kernel), List.mem_of_getElem? (i := 280) (by decide +kernel), List.mem_of_getElem? (i := 281) (by decide +kernel)⟩
theorem lw_p1 : lw_okq (⟨"DunkedBiscuits", "whyNoRow", "(I)I"⟩, 15) := ⟨⟨by decide +kernel, by decide +kernel⟩, List.mem_of_getElem? (i := 16) (by decide +kernel), List.mem_of_getElem? (i := 295) (by decide +kernel), List.mem_of_getElem? (i := 296) (by decide +kernel)⟩
theorem lw_p2 : lw_okq (⟨"DunkedBiscuits$Shelf", "lowestBits", "(J)J"⟩, 4) := ⟨⟨by decide +kernel, by decide +kernel⟩, List.mem_of_getElem? (i := 202) (by decide +kernel), List.mem_of_getElem? (i := 312) (by decide +kernel), List.mem_of_getElem? (i := 313) (by decide +kernel)⟩
theorem lw_p3 : lw_okq (⟨"DunkedBiscuits", "whyNoCopy", "(IIIII)I"⟩, 15) := ⟨⟨by decide +kernel, by decide +kernel⟩, List.mem_of_getElem? (i := 16) (by decide +kernel), List.mem_of_getElem? (i := 320) (by decide +kernel), List.mem_of_getElem? (i := 321) (by decide +kernel)⟩
theorem lw_p4 : lw_okq (⟨"DunkedBiscuits", "saysAs", "(LDunkedBiscuits$Biscuit;I)I"⟩, 15) := ⟨⟨by decide +kernel, by decide +kernel⟩, List.mem_of_getElem? (i := 16) (by decide +kernel), List.mem_of_getElem? (i := 366) (by decide +kernel), List.mem_of_getElem? (i := 367) (by decide +kernel)⟩
theorem lw_p5 : lw_okq (⟨"DunkedBiscuits", "isCell", "(II)Z"⟩, 15) := ⟨⟨by decide +kernel, by decide +kernel⟩, List.mem_of_getElem? (i := 16) (by decide +kernel), List.mem_of_getElem? (i := 415) (by decide +kernel), List.mem_of_getElem? (i := 416) (by decide +kernel)⟩
theorem lw_p6 : lw_okq (⟨"DunkedBiscuits$Reader", "readWord", "()I"⟩, 7) := ⟨⟨by decide +kernel, by decide +kernel⟩, List.mem_of_getElem? (i := 145) (by decide +kernel), List.mem_of_getElem? (i := 446) (by decide +kernel), List.mem_of_getElem? (i := 447) (by decide +kernel)⟩
theorem lw_p7 : lw_okq (⟨"DunkedBiscuits$Reader", "letter", "(I)I"⟩, 7) := ⟨⟨by decide +kernel, by decide +kernel⟩, List.mem_of_getElem? (i := 145) (by decide +kernel), List.mem_of_getElem? (i := 470) (by decide +kernel), List.mem_of_getElem? (i := 471) (by decide +kernel)⟩
theorem lw_p8 : lw_okq (⟨"DunkedBiscuits$Reader", "standsWhole", "(II)I"⟩, 7) := ⟨⟨by decide +kernel, by decide +kernel⟩, List.mem_of_getElem? (i := 145) (by decide +kernel), List.mem_of_getElem? (i := 512) (by decide +kernel), List.mem_of_getElem? (i := 513) (by decide +kernel)⟩
theorem lw_p9 : lw_okq (⟨"DunkedBiscuits$Reader", "readNumbers", "(I)Z"⟩, 7) := ⟨⟨by decide +kernel, by decide +kernel⟩, List.mem_of_getElem? (i := 145) (by decide +kernel), List.mem_of_getElem? (i := 520) (by decide +kernel), List.mem_of_getElem? (i := 521) (by decide +kernel)⟩
theorem lw_p10 : lw_okq (⟨"DunkedBiscuits$Reader", "takes", "(C)Z"⟩, 7) := ⟨⟨by decide +kernel, by decide +kernel⟩, List.mem_of_getElem? (i := 145) (by decide +kernel), List.mem_of_getElem? (i := 527) (by decide +kernel), List.mem_of_getElem? (i := 528) (by decide +kernel)⟩
theorem lw_p11 : lw_okq (⟨"DunkedBiscuits$Reader", "readNumber", "(II)Z"⟩, 7) := ⟨⟨by decide +kernel, by decide +kernel⟩, List.mem_of_getElem? (i := 145) (by decide +kernel), List.mem_of_getElem? (i := 531) (by decide +kernel), List.mem_of_getElem? (i := 532) (by decide +kernel)⟩
theorem lw_p12 : lw_okq (⟨"DunkedBiscuits$Reader", "mayBe", "(III)Z"⟩, 7) := ⟨⟨by decide +kernel, by decide +kernel⟩, List.mem_of_getElem? (i := 145) (by decide +kernel), List.mem_of_getElem? (i := 536) (by decide +kernel), List.mem_of_getElem? (i := 537) (by decide +kernel)⟩
theorem lw_p13 : lw_okq (⟨"DunkedBiscuits$Reader", "tell", "(I)V"⟩, 7) := ⟨⟨by decide +kernel, by decide +kernel⟩, List.mem_of_getElem? (i := 145) (by decide +kernel), List.mem_of_getElem? (i := 592) (by decide +kernel), List.mem_of_getElem? (i := 593) (by decide +kernel)⟩
theorem lw_p14 : lw_okq (⟨"DunkedBiscuits", "whyNoDunk", "(IIII)I"⟩, 15) := ⟨⟨by decide +kernel, by decide +kernel⟩, List.mem_of_getElem? (i := 16) (by decide +kernel), List.mem_of_getElem? (i := 627) (by decide +kernel), List.mem_of_getElem? (i := 628) (by decide +kernel)⟩
theorem lw_p15 : lw_okq (⟨"DunkedBiscuits", "dunkAndCarry", "(LDunkedBiscuits$Biscuit;III)V"⟩, 15) := ⟨⟨by decide +kernel, by decide +kernel⟩, List.mem_of_getElem? (i := 16) (by decide +kernel), List.mem_of_getElem? (i := 634) (by decide +kernel), List.mem_of_getElem? (i := 635) (by decide +kernel)⟩
def lw_privs_1 : List (MethodName × Nat) := [(⟨"DunkedBiscuits", "refused", "(I)I"⟩, 15), (⟨"DunkedBiscuits", "whyNoRow", "(I)I"⟩, 15), (⟨"DunkedBiscuits$Shelf", "lowestBits", "(J)J"⟩, 4), (⟨"DunkedBiscuits", "whyNoCopy", "(IIIII)I"⟩, 15), (⟨"DunkedBiscuits", "saysAs", "(LDunkedBiscuits$Biscuit;I)I"⟩, 15), (⟨"DunkedBiscuits", "isCell", "(II)Z"⟩, 15), (⟨"DunkedBiscuits$Reader", "readWord", "()I"⟩, 7), (⟨"DunkedBiscuits$Reader", "letter", "(I)I"⟩, 7), (⟨"DunkedBiscuits$Reader", "standsWhole", "(II)I"⟩, 7), (⟨"DunkedBiscuits$Reader", "readNumbers", "(I)Z"⟩, 7), (⟨"DunkedBiscuits$Reader", "takes", "(C)Z"⟩, 7), (⟨"DunkedBiscuits$Reader", "readNumber", "(II)Z"⟩, 7), (⟨"DunkedBiscuits$Reader", "mayBe", "(III)Z"⟩, 7), (⟨"DunkedBiscuits$Reader", "tell", "(I)V"⟩, 7), (⟨"DunkedBiscuits", "whyNoDunk", "(IIII)I"⟩, 15), (⟨"DunkedBiscuits", "dunkAndCarry", "(LDunkedBiscuits$Biscuit;III)V"⟩, 15)]
theorem lw_r1 : ∀ q ∈ lw_privs_1, lw_okq q := List.forall_mem_cons.mpr ⟨lw_p0, List.forall_mem_cons.mpr ⟨lw_p1, List.forall_mem_cons.mpr ⟨lw_p2, List.forall_mem_cons.mpr ⟨lw_p3, List.forall_mem_cons.mpr ⟨lw_p4, List.forall_mem_cons.mpr ⟨lw_p5, List.forall_mem_cons.mpr ⟨lw_p6, List.forall_mem_cons.mpr ⟨lw_p7, List.forall_mem_cons.mpr ⟨lw_p8, List.forall_mem_cons.mpr ⟨lw_p9, List.forall_mem_cons.mpr ⟨lw_p10, List.forall_mem_cons.mpr ⟨lw_p11, List.forall_mem_cons.mpr ⟨lw_p12, List.forall_mem_cons.mpr ⟨lw_p13, List.forall_mem_cons.mpr ⟨lw_p14, List.forall_mem_cons.mpr ⟨lw_p15, fun _ h => absurd h List.not_mem_nil⟩⟩⟩⟩⟩⟩⟩⟩⟩⟩⟩⟩⟩⟩⟩⟩
theorem lw_p16 : lw_okq (⟨"DunkedBiscuits", "bestDip", "(LDunkedBiscuits$Biscuit;I)I"⟩, 15) := ⟨⟨by decide +kernel, by decide +kernel⟩, List.mem_of_getElem? (i := 16) (by decide +kernel), List.mem_of_getElem? (i := 684) (by decide +kernel), List.mem_of_getElem? (i := 685) (by decide +kernel)⟩
theorem lw_p17 : lw_okq (⟨"DunkedBiscuits", "fillPlateWorths", "(III)V"⟩, 15) := ⟨⟨by decide +kernel, by decide +kernel⟩, List.mem_of_getElem? (i := 16) (by decide +kernel), List.mem_of_getElem? (i := 700) (by decide +kernel), List.mem_of_getElem? (i := 701) (by decide +kernel)⟩
theorem lw_p18 : lw_okq (⟨"DunkedBiscuits", "findBestOrder", "()I"⟩, 15) := ⟨⟨by decide +kernel, by decide +kernel⟩, List.mem_of_getElem? (i := 16) (by decide +kernel), List.mem_of_getElem? (i := 705) (by decide +kernel), List.mem_of_getElem? (i := 706) (by decide +kernel)⟩
theorem lw_p19 : lw_okq (⟨"DunkedBiscuits", "toNextOrder", "(I)Z"⟩, 15) := ⟨⟨by decide +kernel, by decide +kernel⟩, List.mem_of_getElem? (i := 16) (by decide +kernel), List.mem_of_getElem? (i := 709) (by decide +kernel), List.mem_of_getElem? (i := 710) (by decide +kernel)⟩
theorem lw_p20 : lw_okq (⟨"DunkedBiscuits", "swapInOrder", "(II)V"⟩, 15) := ⟨⟨by decide +kernel, by decide +kernel⟩, List.mem_of_getElem? (i := 16) (by decide +kernel), List.mem_of_getElem? (i := 713) (by decide +kernel), List.mem_of_getElem? (i := 714) (by decide +kernel)⟩
theorem lw_p21 : lw_okq (⟨"DunkedBiscuits", "whyNotBack", "(II)I"⟩, 15) := ⟨⟨by decide +kernel, by decide +kernel⟩, List.mem_of_getElem? (i := 16) (by decide +kernel), List.mem_of_getElem? (i := 727) (by decide +kernel), List.mem_of_getElem? (i := 728) (by decide +kernel)⟩
theorem lw_p22 : lw_okq (⟨"DunkedBiscuits", "whyNotInTruth", "(IIII)I"⟩, 15) := ⟨⟨by decide +kernel, by decide +kernel⟩, List.mem_of_getElem? (i := 16) (by decide +kernel), List.mem_of_getElem? (i := 752) (by decide +kernel), List.mem_of_getElem? (i := 753) (by decide +kernel)⟩
theorem lw_p23 : lw_okq (⟨"DunkedBiscuits$State", "draw", "(I)I"⟩, 10) := ⟨⟨by decide +kernel, by decide +kernel⟩, List.mem_of_getElem? (i := 26) (by decide +kernel), List.mem_of_getElem? (i := 786) (by decide +kernel), List.mem_of_getElem? (i := 787) (by decide +kernel)⟩
theorem lw_p24 : lw_okq (⟨"DunkedBiscuits$Act", "begins", "(I)V"⟩, 5) := ⟨⟨by decide +kernel, by decide +kernel⟩, List.mem_of_getElem? (i := 174) (by decide +kernel), List.mem_of_getElem? (i := 812) (by decide +kernel), List.mem_of_getElem? (i := 813) (by decide +kernel)⟩
theorem lw_p25 : lw_okq (⟨"DunkedBiscuitsModel", "isShelf", "(I)Z"⟩, 43) := ⟨⟨by decide +kernel, by decide +kernel⟩, List.mem_of_getElem? (i := 837) (by decide +kernel), List.mem_of_getElem? (i := 977) (by decide +kernel), List.mem_of_getElem? (i := 978) (by decide +kernel)⟩
theorem lw_p26 : lw_okq (⟨"DunkedBiscuitsModel", "no", "(I)I"⟩, 43) := ⟨⟨by decide +kernel, by decide +kernel⟩, List.mem_of_getElem? (i := 837) (by decide +kernel), List.mem_of_getElem? (i := 981) (by decide +kernel), List.mem_of_getElem? (i := 982) (by decide +kernel)⟩
theorem lw_p27 : lw_okq (⟨"DunkedBiscuitsModel", "isBiscuit", "(I)Z"⟩, 43) := ⟨⟨by decide +kernel, by decide +kernel⟩, List.mem_of_getElem? (i := 837) (by decide +kernel), List.mem_of_getElem? (i := 1001) (by decide +kernel), List.mem_of_getElem? (i := 1002) (by decide +kernel)⟩
theorem lw_p28 : lw_okq (⟨"DunkedBiscuitsModel", "soakOf", "(IIII)I"⟩, 43) := ⟨⟨by decide +kernel, by decide +kernel⟩, List.mem_of_getElem? (i := 837) (by decide +kernel), List.mem_of_getElem? (i := 1013) (by decide +kernel), List.mem_of_getElem? (i := 1014) (by decide +kernel)⟩
theorem lw_p29 : lw_okq (⟨"DunkedBiscuitsModel", "adds", "(III)I"⟩, 43) := ⟨⟨by decide +kernel, by decide +kernel⟩, List.mem_of_getElem? (i := 837) (by decide +kernel), List.mem_of_getElem? (i := 1021) (by decide +kernel), List.mem_of_getElem? (i := 1022) (by decide +kernel)⟩
theorem lw_p30 : lw_okq (⟨"DunkedBiscuitsModel", "isCell", "(II)Z"⟩, 43) := ⟨⟨by decide +kernel, by decide +kernel⟩, List.mem_of_getElem? (i := 837) (by decide +kernel), List.mem_of_getElem? (i := 1029) (by decide +kernel), List.mem_of_getElem? (i := 1030) (by decide +kernel)⟩
theorem lw_p31 : lw_okq (⟨"DunkedBiscuitsModel", "wanted", "(I)I"⟩, 43) := ⟨⟨by decide +kernel, by decide +kernel⟩, List.mem_of_getElem? (i := 837) (by decide +kernel), List.mem_of_getElem? (i := 1049) (by decide +kernel), List.mem_of_getElem? (i := 1050) (by decide +kernel)⟩
def lw_privs_2 : List (MethodName × Nat) := [(⟨"DunkedBiscuits", "bestDip", "(LDunkedBiscuits$Biscuit;I)I"⟩, 15), (⟨"DunkedBiscuits", "fillPlateWorths", "(III)V"⟩, 15), (⟨"DunkedBiscuits", "findBestOrder", "()I"⟩, 15), (⟨"DunkedBiscuits", "toNextOrder", "(I)Z"⟩, 15), (⟨"DunkedBiscuits", "swapInOrder", "(II)V"⟩, 15), (⟨"DunkedBiscuits", "whyNotBack", "(II)I"⟩, 15), (⟨"DunkedBiscuits", "whyNotInTruth", "(IIII)I"⟩, 15), (⟨"DunkedBiscuits$State", "draw", "(I)I"⟩, 10), (⟨"DunkedBiscuits$Act", "begins", "(I)V"⟩, 5), (⟨"DunkedBiscuitsModel", "isShelf", "(I)Z"⟩, 43), (⟨"DunkedBiscuitsModel", "no", "(I)I"⟩, 43), (⟨"DunkedBiscuitsModel", "isBiscuit", "(I)Z"⟩, 43), (⟨"DunkedBiscuitsModel", "soakOf", "(IIII)I"⟩, 43), (⟨"DunkedBiscuitsModel", "adds", "(III)I"⟩, 43), (⟨"DunkedBiscuitsModel", "isCell", "(II)Z"⟩, 43), (⟨"DunkedBiscuitsModel", "wanted", "(I)I"⟩, 43)]
theorem lw_r2 : ∀ q ∈ lw_privs_2, lw_okq q := List.forall_mem_cons.mpr ⟨lw_p16, List.forall_mem_cons.mpr ⟨lw_p17, List.forall_mem_cons.mpr ⟨lw_p18, List.forall_mem_cons.mpr ⟨lw_p19, List.forall_mem_cons.mpr ⟨lw_p20, List.forall_mem_cons.mpr ⟨lw_p21, List.forall_mem_cons.mpr ⟨lw_p22, List.forall_mem_cons.mpr ⟨lw_p23, List.forall_mem_cons.mpr ⟨lw_p24, List.forall_mem_cons.mpr ⟨lw_p25, List.forall_mem_cons.mpr ⟨lw_p26, List.forall_mem_cons.mpr ⟨lw_p27, List.forall_mem_cons.mpr ⟨lw_p28, List.forall_mem_cons.mpr ⟨lw_p29, List.forall_mem_cons.mpr ⟨lw_p30, List.forall_mem_cons.mpr ⟨lw_p31, fun _ h => absurd h List.not_mem_nil⟩⟩⟩⟩⟩⟩⟩⟩⟩⟩⟩⟩⟩⟩⟩⟩
theorem lw_p32 : lw_okq (⟨"DunkedBiscuitsModel", "all", "([IZ)V"⟩, 43) := ⟨⟨by decide +kernel, by decide +kernel⟩, List.mem_of_getElem? (i := 837) (by decide +kernel), List.mem_of_getElem? (i := 1053) (by decide +kernel), List.mem_of_getElem? (i := 1054) (by decide +kernel)⟩
theorem lw_p33 : lw_okq (⟨"DunkedBiscuitsModel", "carries", "([II[IIZ)I"⟩, 43) := ⟨⟨by decide +kernel, by decide +kernel⟩, List.mem_of_getElem? (i := 837) (by decide +kernel), List.mem_of_getElem? (i := 1057) (by decide +kernel), List.mem_of_getElem? (i := 1058) (by decide +kernel)⟩
theorem lw_p34 : lw_okq (⟨"DunkedBiscuitsModel", "item", "()Z"⟩, 43) := ⟨⟨by decide +kernel, by decide +kernel⟩, List.mem_of_getElem? (i := 837) (by decide +kernel), List.mem_of_getElem? (i := 1061) (by decide +kernel), List.mem_of_getElem? (i := 1062) (by decide +kernel)⟩
theorem lw_p35 : lw_okq (⟨"DunkedBiscuitsModel", "isWordAt", "(I)Z"⟩, 43) := ⟨⟨by decide +kernel, by decide +kernel⟩, List.mem_of_getElem? (i := 837) (by decide +kernel), List.mem_of_getElem? (i := 1065) (by decide +kernel), List.mem_of_getElem? (i := 1066) (by decide +kernel)⟩
theorem lw_p36 : lw_okq (⟨"DunkedBiscuitsModel", "wrong", "(I)Z"⟩, 43) := ⟨⟨by decide +kernel, by decide +kernel⟩, List.mem_of_getElem? (i := 837) (by decide +kernel), List.mem_of_getElem? (i := 1069) (by decide +kernel), List.mem_of_getElem? (i := 1070) (by decide +kernel)⟩
theorem lw_p37 : lw_okq (⟨"DunkedBiscuitsModel", "word", "()I"⟩, 43) := ⟨⟨by decide +kernel, by decide +kernel⟩, List.mem_of_getElem? (i := 837) (by decide +kernel), List.mem_of_getElem? (i := 1073) (by decide +kernel), List.mem_of_getElem? (i := 1074) (by decide +kernel)⟩
theorem lw_p38 : lw_okq (⟨"DunkedBiscuitsModel", "number", "()Z"⟩, 43) := ⟨⟨by decide +kernel, by decide +kernel⟩, List.mem_of_getElem? (i := 837) (by decide +kernel), List.mem_of_getElem? (i := 1077) (by decide +kernel), List.mem_of_getElem? (i := 1078) (by decide +kernel)⟩
theorem lw_p39 : lw_okq (⟨"DunkedBiscuitsModel", "isDigit", "()Z"⟩, 43) := ⟨⟨by decide +kernel, by decide +kernel⟩, List.mem_of_getElem? (i := 837) (by decide +kernel), List.mem_of_getElem? (i := 1081) (by decide +kernel), List.mem_of_getElem? (i := 1082) (by decide +kernel)⟩
theorem lw_p40 : lw_okq (⟨"DunkedBiscuitsModel", "isSo", "(II)Z"⟩, 43) := ⟨⟨by decide +kernel, by decide +kernel⟩, List.mem_of_getElem? (i := 837) (by decide +kernel), List.mem_of_getElem? (i := 1085) (by decide +kernel), List.mem_of_getElem? (i := 1086) (by decide +kernel)⟩
theorem lw_p41 : lw_okq (⟨"DunkedBiscuitsModel", "dips", "(III)I"⟩, 43) := ⟨⟨by decide +kernel, by decide +kernel⟩, List.mem_of_getElem? (i := 837) (by decide +kernel), List.mem_of_getElem? (i := 1089) (by decide +kernel), List.mem_of_getElem? (i := 1090) (by decide +kernel)⟩
theorem lw_p42 : lw_okq (⟨"DunkedBiscuitsModel", "tries", "(IIIII)V"⟩, 43) := ⟨⟨by decide +kernel, by decide +kernel⟩, List.mem_of_getElem? (i := 837) (by decide +kernel), List.mem_of_getElem? (i := 1093) (by decide +kernel), List.mem_of_getElem? (i := 1094) (by decide +kernel)⟩
theorem lw_p43 : lw_okq (⟨"DunkedBiscuitsModel", "lays", "(I)V"⟩, 43) := ⟨⟨by decide +kernel, by decide +kernel⟩, List.mem_of_getElem? (i := 837) (by decide +kernel), List.mem_of_getElem? (i := 1097) (by decide +kernel), List.mem_of_getElem? (i := 1098) (by decide +kernel)⟩
theorem lw_p44 : lw_okq (⟨"DunkedBiscuitsModel", "dunks", "(IIIII)V"⟩, 43) := ⟨⟨by decide +kernel, by decide +kernel⟩, List.mem_of_getElem? (i := 837) (by decide +kernel), List.mem_of_getElem? (i := 1101) (by decide +kernel), List.mem_of_getElem? (i := 1102) (by decide +kernel)⟩
theorem lw_p45 : lw_okq (⟨"DunkedBiscuitsModel", "goesBy", "(II)V"⟩, 43) := ⟨⟨by decide +kernel, by decide +kernel⟩, List.mem_of_getElem? (i := 837) (by decide +kernel), List.mem_of_getElem? (i := 1105) (by decide +kernel), List.mem_of_getElem? (i := 1106) (by decide +kernel)⟩
theorem lw_p46 : lw_okq (⟨"DunkedBiscuitsModel", "breakOf", "(I)I"⟩, 43) := ⟨⟨by decide +kernel, by decide +kernel⟩, List.mem_of_getElem? (i := 837) (by decide +kernel), List.mem_of_getElem? (i := 1109) (by decide +kernel), List.mem_of_getElem? (i := 1110) (by decide +kernel)⟩
theorem lw_p47 : lw_okq (⟨"DunkedBiscuitsModel", "hangsOf", "(I)I"⟩, 43) := ⟨⟨by decide +kernel, by decide +kernel⟩, List.mem_of_getElem? (i := 837) (by decide +kernel), List.mem_of_getElem? (i := 1113) (by decide +kernel), List.mem_of_getElem? (i := 1114) (by decide +kernel)⟩
def lw_privs_3 : List (MethodName × Nat) := [(⟨"DunkedBiscuitsModel", "all", "([IZ)V"⟩, 43), (⟨"DunkedBiscuitsModel", "carries", "([II[IIZ)I"⟩, 43), (⟨"DunkedBiscuitsModel", "item", "()Z"⟩, 43), (⟨"DunkedBiscuitsModel", "isWordAt", "(I)Z"⟩, 43), (⟨"DunkedBiscuitsModel", "wrong", "(I)Z"⟩, 43), (⟨"DunkedBiscuitsModel", "word", "()I"⟩, 43), (⟨"DunkedBiscuitsModel", "number", "()Z"⟩, 43), (⟨"DunkedBiscuitsModel", "isDigit", "()Z"⟩, 43), (⟨"DunkedBiscuitsModel", "isSo", "(II)Z"⟩, 43), (⟨"DunkedBiscuitsModel", "dips", "(III)I"⟩, 43), (⟨"DunkedBiscuitsModel", "tries", "(IIIII)V"⟩, 43), (⟨"DunkedBiscuitsModel", "lays", "(I)V"⟩, 43), (⟨"DunkedBiscuitsModel", "dunks", "(IIIII)V"⟩, 43), (⟨"DunkedBiscuitsModel", "goesBy", "(II)V"⟩, 43), (⟨"DunkedBiscuitsModel", "breakOf", "(I)I"⟩, 43), (⟨"DunkedBiscuitsModel", "hangsOf", "(I)I"⟩, 43)]
theorem lw_r3 : ∀ q ∈ lw_privs_3, lw_okq q := List.forall_mem_cons.mpr ⟨lw_p32, List.forall_mem_cons.mpr ⟨lw_p33, List.forall_mem_cons.mpr ⟨lw_p34, List.forall_mem_cons.mpr ⟨lw_p35, List.forall_mem_cons.mpr ⟨lw_p36, List.forall_mem_cons.mpr ⟨lw_p37, List.forall_mem_cons.mpr ⟨lw_p38, List.forall_mem_cons.mpr ⟨lw_p39, List.forall_mem_cons.mpr ⟨lw_p40, List.forall_mem_cons.mpr ⟨lw_p41, List.forall_mem_cons.mpr ⟨lw_p42, List.forall_mem_cons.mpr ⟨lw_p43, List.forall_mem_cons.mpr ⟨lw_p44, List.forall_mem_cons.mpr ⟨lw_p45, List.forall_mem_cons.mpr ⟨lw_p46, List.forall_mem_cons.mpr ⟨lw_p47, fun _ h => absurd h List.not_mem_nil⟩⟩⟩⟩⟩⟩⟩⟩⟩⟩⟩⟩⟩⟩⟩⟩
theorem lw_p48 : lw_okq (⟨"DunkedBiscuitsModel", "holdsOf", "(II)I"⟩, 43) := ⟨⟨by decide +kernel, by decide +kernel⟩, List.mem_of_getElem? (i := 837) (by decide +kernel), List.mem_of_getElem? (i := 1117) (by decide +kernel), List.mem_of_getElem? (i := 1118) (by decide +kernel)⟩
theorem lw_p49 : lw_okq (⟨"DunkedBiscuitsModel", "stays", "(I)V"⟩, 43) := ⟨⟨by decide +kernel, by decide +kernel⟩, List.mem_of_getElem? (i := 837) (by decide +kernel), List.mem_of_getElem? (i := 1121) (by decide +kernel), List.mem_of_getElem? (i := 1122) (by decide +kernel)⟩
theorem lw_p50 : lw_okq (⟨"DunkedBiscuitsModel", "passes", "(I)V"⟩, 43) := ⟨⟨by decide +kernel, by decide +kernel⟩, List.mem_of_getElem? (i := 837) (by decide +kernel), List.mem_of_getElem? (i := 1125) (by decide +kernel), List.mem_of_getElem? (i := 1126) (by decide +kernel)⟩
theorem lw_p51 : lw_okq (⟨"DunkedBiscuitsModel", "heatBehind", "(I)I"⟩, 43) := ⟨⟨by decide +kernel, by decide +kernel⟩, List.mem_of_getElem? (i := 837) (by decide +kernel), List.mem_of_getElem? (i := 1129) (by decide +kernel), List.mem_of_getElem? (i := 1130) (by decide +kernel)⟩
theorem lw_p52 : lw_okq (⟨"DunkedBiscuitsModel", "noFar", "(I)I"⟩, 43) := ⟨⟨by decide +kernel, by decide +kernel⟩, List.mem_of_getElem? (i := 837) (by decide +kernel), List.mem_of_getElem? (i := 1145) (by decide +kernel), List.mem_of_getElem? (i := 1146) (by decide +kernel)⟩
theorem lw_p53 : lw_okq (⟨"DunkedBiscuitsModel", "noTen", "(I)I"⟩, 43) := ⟨⟨by decide +kernel, by decide +kernel⟩, List.mem_of_getElem? (i := 837) (by decide +kernel), List.mem_of_getElem? (i := 1153) (by decide +kernel), List.mem_of_getElem? (i := 1154) (by decide +kernel)⟩
theorem lw_p54 : lw_okq (⟨"DunkedBiscuitsModel", "may", "(III)Z"⟩, 43) := ⟨⟨by decide +kernel, by decide +kernel⟩, List.mem_of_getElem? (i := 837) (by decide +kernel), List.mem_of_getElem? (i := 1161) (by decide +kernel), List.mem_of_getElem? (i := 1162) (by decide +kernel)⟩
theorem lw_p55 : lw_okq (⟨"DunkedBiscuitsModel", "isDeep", "(I)Z"⟩, 43) := ⟨⟨by decide +kernel, by decide +kernel⟩, List.mem_of_getElem? (i := 837) (by decide +kernel), List.mem_of_getElem? (i := 1165) (by decide +kernel), List.mem_of_getElem? (i := 1166) (by decide +kernel)⟩
theorem lw_p56 : lw_okq (⟨"DunkedBiscuitsModel", "isLong", "(I)Z"⟩, 43) := ⟨⟨by decide +kernel, by decide +kernel⟩, List.mem_of_getElem? (i := 837) (by decide +kernel), List.mem_of_getElem? (i := 1169) (by decide +kernel), List.mem_of_getElem? (i := 1170) (by decide +kernel)⟩
theorem lw_p57 : lw_okq (⟨"DunkedBiscuitsModel", "isWhole", "(IIII)Z"⟩, 43) := ⟨⟨by decide +kernel, by decide +kernel⟩, List.mem_of_getElem? (i := 837) (by decide +kernel), List.mem_of_getElem? (i := 1185) (by decide +kernel), List.mem_of_getElem? (i := 1186) (by decide +kernel)⟩
theorem lw_p58 : lw_okq (⟨"DunkedBiscuitsModel", "worthNow", "()I"⟩, 43) := ⟨⟨by decide +kernel, by decide +kernel⟩, List.mem_of_getElem? (i := 837) (by decide +kernel), List.mem_of_getElem? (i := 1197) (by decide +kernel), List.mem_of_getElem? (i := 1198) (by decide +kernel)⟩
theorem lw_p59 : lw_okq (⟨"DunkedBiscuitsModel", "turnsRow", "()V"⟩, 43) := ⟨⟨by decide +kernel, by decide +kernel⟩, List.mem_of_getElem? (i := 837) (by decide +kernel), List.mem_of_getElem? (i := 1205) (by decide +kernel), List.mem_of_getElem? (i := 1206) (by decide +kernel)⟩
theorem lw_p60 : lw_okq (⟨"DunkedBiscuitsModel", "plates", "(IIIIII)V"⟩, 43) := ⟨⟨by decide +kernel, by decide +kernel⟩, List.mem_of_getElem? (i := 837) (by decide +kernel), List.mem_of_getElem? (i := 1221) (by decide +kernel), List.mem_of_getElem? (i := 1222) (by decide +kernel)⟩
theorem lw_p61 : lw_okq (⟨"DunkedBiscuitsModel", "bars", "(II)I"⟩, 43) := ⟨⟨by decide +kernel, by decide +kernel⟩, List.mem_of_getElem? (i := 837) (by decide +kernel), List.mem_of_getElem? (i := 1233) (by decide +kernel), List.mem_of_getElem? (i := 1234) (by decide +kernel)⟩
theorem lw_p62 : lw_okq (⟨"DunkedBiscuitsModel", "isBack", "(IIIII)Z"⟩, 43) := ⟨⟨by decide +kernel, by decide +kernel⟩, List.mem_of_getElem? (i := 837) (by decide +kernel), List.mem_of_getElem? (i := 1237) (by decide +kernel), List.mem_of_getElem? (i := 1238) (by decide +kernel)⟩
theorem lw_p63 : lw_okq (⟨"DunkedBiscuitsModel", "carriesOff", "(II)I"⟩, 43) := ⟨⟨by decide +kernel, by decide +kernel⟩, List.mem_of_getElem? (i := 837) (by decide +kernel), List.mem_of_getElem? (i := 1257) (by decide +kernel), List.mem_of_getElem? (i := 1258) (by decide +kernel)⟩
def lw_privs_4 : List (MethodName × Nat) := [(⟨"DunkedBiscuitsModel", "holdsOf", "(II)I"⟩, 43), (⟨"DunkedBiscuitsModel", "stays", "(I)V"⟩, 43), (⟨"DunkedBiscuitsModel", "passes", "(I)V"⟩, 43), (⟨"DunkedBiscuitsModel", "heatBehind", "(I)I"⟩, 43), (⟨"DunkedBiscuitsModel", "noFar", "(I)I"⟩, 43), (⟨"DunkedBiscuitsModel", "noTen", "(I)I"⟩, 43), (⟨"DunkedBiscuitsModel", "may", "(III)Z"⟩, 43), (⟨"DunkedBiscuitsModel", "isDeep", "(I)Z"⟩, 43), (⟨"DunkedBiscuitsModel", "isLong", "(I)Z"⟩, 43), (⟨"DunkedBiscuitsModel", "isWhole", "(IIII)Z"⟩, 43), (⟨"DunkedBiscuitsModel", "worthNow", "()I"⟩, 43), (⟨"DunkedBiscuitsModel", "turnsRow", "()V"⟩, 43), (⟨"DunkedBiscuitsModel", "plates", "(IIIIII)V"⟩, 43), (⟨"DunkedBiscuitsModel", "bars", "(II)I"⟩, 43), (⟨"DunkedBiscuitsModel", "isBack", "(IIIII)Z"⟩, 43), (⟨"DunkedBiscuitsModel", "carriesOff", "(II)I"⟩, 43)]
theorem lw_r4 : ∀ q ∈ lw_privs_4, lw_okq q := List.forall_mem_cons.mpr ⟨lw_p48, List.forall_mem_cons.mpr ⟨lw_p49, List.forall_mem_cons.mpr ⟨lw_p50, List.forall_mem_cons.mpr ⟨lw_p51, List.forall_mem_cons.mpr ⟨lw_p52, List.forall_mem_cons.mpr ⟨lw_p53, List.forall_mem_cons.mpr ⟨lw_p54, List.forall_mem_cons.mpr ⟨lw_p55, List.forall_mem_cons.mpr ⟨lw_p56, List.forall_mem_cons.mpr ⟨lw_p57, List.forall_mem_cons.mpr ⟨lw_p58, List.forall_mem_cons.mpr ⟨lw_p59, List.forall_mem_cons.mpr ⟨lw_p60, List.forall_mem_cons.mpr ⟨lw_p61, List.forall_mem_cons.mpr ⟨lw_p62, List.forall_mem_cons.mpr ⟨lw_p63, fun _ h => absurd h List.not_mem_nil⟩⟩⟩⟩⟩⟩⟩⟩⟩⟩⟩⟩⟩⟩⟩⟩
theorem lw_p64 : lw_okq (⟨"DunkedBiscuitsModel", "turns", "(I)V"⟩, 43) := ⟨⟨by decide +kernel, by decide +kernel⟩, List.mem_of_getElem? (i := 837) (by decide +kernel), List.mem_of_getElem? (i := 1265) (by decide +kernel), List.mem_of_getElem? (i := 1266) (by decide +kernel)⟩
theorem lw_p65 : lw_okq (⟨"DunkedBiscuitsModel", "eaten", "(I)I"⟩, 43) := ⟨⟨by decide +kernel, by decide +kernel⟩, List.mem_of_getElem? (i := 837) (by decide +kernel), List.mem_of_getElem? (i := 1273) (by decide +kernel), List.mem_of_getElem? (i := 1274) (by decide +kernel)⟩
theorem lw_p66 : lw_okq (⟨"DunkedBiscuitsModel", "draw", "(I)I"⟩, 43) := ⟨⟨by decide +kernel, by decide +kernel⟩, List.mem_of_getElem? (i := 837) (by decide +kernel), List.mem_of_getElem? (i := 1281) (by decide +kernel), List.mem_of_getElem? (i := 1282) (by decide +kernel)⟩
theorem lw_p67 : lw_okq (⟨"DunkedBiscuitsModel", "soaking", "(II)I"⟩, 43) := ⟨⟨by decide +kernel, by decide +kernel⟩, List.mem_of_getElem? (i := 837) (by decide +kernel), List.mem_of_getElem? (i := 1294) (by decide +kernel), List.mem_of_getElem? (i := 1295) (by decide +kernel)⟩
theorem lw_p68 : lw_okq (⟨"DunkedBiscuitsModel", "body", "(I)V"⟩, 43) := ⟨⟨by decide +kernel, by decide +kernel⟩, List.mem_of_getElem? (i := 837) (by decide +kernel), List.mem_of_getElem? (i := 1298) (by decide +kernel), List.mem_of_getElem? (i := 1299) (by decide +kernel)⟩
theorem lw_p69 : lw_okq (⟨"DunkedBiscuitsModel", "creeping", "(II)I"⟩, 43) := ⟨⟨by decide +kernel, by decide +kernel⟩, List.mem_of_getElem? (i := 837) (by decide +kernel), List.mem_of_getElem? (i := 1302) (by decide +kernel), List.mem_of_getElem? (i := 1303) (by decide +kernel)⟩
theorem lw_p70 : lw_okq (⟨"DunkedBiscuitsModel", "breaking", "(II)I"⟩, 43) := ⟨⟨by decide +kernel, by decide +kernel⟩, List.mem_of_getElem? (i := 837) (by decide +kernel), List.mem_of_getElem? (i := 1306) (by decide +kernel), List.mem_of_getElem? (i := 1307) (by decide +kernel)⟩
def lw_privs_5 : List (MethodName × Nat) := [(⟨"DunkedBiscuitsModel", "turns", "(I)V"⟩, 43), (⟨"DunkedBiscuitsModel", "eaten", "(I)I"⟩, 43), (⟨"DunkedBiscuitsModel", "draw", "(I)I"⟩, 43), (⟨"DunkedBiscuitsModel", "soaking", "(II)I"⟩, 43), (⟨"DunkedBiscuitsModel", "body", "(I)V"⟩, 43), (⟨"DunkedBiscuitsModel", "creeping", "(II)I"⟩, 43), (⟨"DunkedBiscuitsModel", "breaking", "(II)I"⟩, 43)]
theorem lw_r5 : ∀ q ∈ lw_privs_5, lw_okq q := List.forall_mem_cons.mpr ⟨lw_p64, List.forall_mem_cons.mpr ⟨lw_p65, List.forall_mem_cons.mpr ⟨lw_p66, List.forall_mem_cons.mpr ⟨lw_p67, List.forall_mem_cons.mpr ⟨lw_p68, List.forall_mem_cons.mpr ⟨lw_p69, List.forall_mem_cons.mpr ⟨lw_p70, fun _ h => absurd h List.not_mem_nil⟩⟩⟩⟩⟩⟩⟩
def lw_privs : List (MethodName × Nat) := lw_privs_1 ++ (lw_privs_2 ++ (lw_privs_3 ++ (lw_privs_4 ++ (lw_privs_5))))
def lw_tbl : List Cond := k2_sels lw_privs ++ tables_1
theorem lw_privs_ok : ∀ q ∈ lw_privs, lw_okq q := by
  show ∀ q ∈ lw_privs_1 ++ (lw_privs_2 ++ (lw_privs_3 ++ (lw_privs_4 ++ (lw_privs_5)))), lw_okq q
  exact List.forall_mem_append.mpr ⟨lw_r1, List.forall_mem_append.mpr ⟨lw_r2, List.forall_mem_append.mpr ⟨lw_r3, List.forall_mem_append.mpr ⟨lw_r4, lw_r5⟩⟩⟩⟩
-- ===== end of PART A; then your names; then what follows =====
end
section
def RX0 : String := "DunkedBiscuits$Act"
def TX0 : u_T := fun k => match k with
  | 0 => ("DunkedBiscuits$Act", "kept", "[I", true)
  | 1 => ("DunkedBiscuits$Act", "kind", "I", false)
  | 2 => ("DunkedBiscuits$Act", "number", "I", false)
  | 3 => ("DunkedBiscuits$Act", "a", "I", false)
  | _ => ("DunkedBiscuits$Act", "bodies", "I", false)
def tyX0 : Nat → FieldType := fun k => match k with
  | 0 => .array .int
  | 1 => .int
  | 2 => .int
  | 3 => .int
  | _ => .int
theorem nmX0 : ∀ a, a < 5 → ∀ b, b < 5 → a ≠ b → (TX0 a).2.1 ≠ (TX0 b).2.1 := by decide +kernel
theorem tyX0_ok : ∀ k, k < 5 → parseFieldDescriptor (TX0 k).2.2.1 = some (tyX0 k) := by decide +kernel
abbrev cX0_init : ByteArray := prog_2_method_1_code
def yX0_init : MethodName := ⟨RX0, "<init>", "()V"⟩
abbrev cX0_run : ByteArray := prog_2_method_2_code
def yX0_run : MethodName := ⟨RX0, "run", "(LDunkedBiscuits$Act;IIII)I"⟩
abbrev cX0_ownerOf : ByteArray := prog_2_method_3_code
def yX0_ownerOf : MethodName := ⟨RX0, "ownerOf", "(II)I"⟩
abbrev cX0_begins : ByteArray := prog_2_method_4_code
def yX0_begins : MethodName := ⟨RX0, "begins", "(I)V"⟩
def RX1 : String := "DunkedBiscuits$Biscuit"
def TX1 : u_T := fun k => match k with
  | 0 => ("DunkedBiscuits$Biscuit", "kind", "I", false)
  | 1 => ("DunkedBiscuits$Biscuit", "a", "I", false)
  | 2 => ("DunkedBiscuits$Biscuit", "cells", "I", false)
  | _ => ("DunkedBiscuits$Biscuit", "wets", "[I", true)
def tyX1 : Nat → FieldType := fun k => match k with
  | 0 => .int
  | 1 => .int
  | 2 => .int
  | _ => .array .int
theorem nmX1 : ∀ a, a < 4 → ∀ b, b < 4 → a ≠ b → (TX1 a).2.1 ≠ (TX1 b).2.1 := by decide +kernel
theorem tyX1_ok : ∀ k, k < 4 → parseFieldDescriptor (TX1 k).2.2.1 = some (tyX1 k) := by decide +kernel
abbrev cX1_init : ByteArray := prog_3_method_1_code
def yX1_init : MethodName := ⟨RX1, "<init>", "()V"⟩
abbrev cX1_become : ByteArray := prog_3_method_2_code
def yX1_become : MethodName := ⟨RX1, "become", "(LDunkedBiscuits$Biscuit;)V"⟩
abbrev cX1_becomeNew : ByteArray := prog_3_method_3_code
def yX1_becomeNew : MethodName := ⟨RX1, "becomeNew", "(III)V"⟩
abbrev cX1_dry : ByteArray := prog_3_method_4_code
def yX1_dry : MethodName := ⟨RX1, "dry", "()V"⟩
abbrev cX1_hasCell : ByteArray := prog_3_method_5_code
def yX1_hasCell : MethodName := ⟨RX1, "hasCell", "(I)Z"⟩
abbrev cX1_isOf : ByteArray := prog_3_method_6_code
def yX1_isOf : MethodName := ⟨RX1, "isOf", "(I)Z"⟩
abbrev cX1_wetOfAll : ByteArray := prog_3_method_7_code
def yX1_wetOfAll : MethodName := ⟨RX1, "wetOfAll", "()I"⟩
abbrev cX1_soakOf : ByteArray := prog_3_method_8_code
def yX1_soakOf : MethodName := ⟨RX1, "soakOf", "(II)I"⟩
abbrev cX1_creepInto : ByteArray := prog_3_method_9_code
def yX1_creepInto : MethodName := ⟨RX1, "creepInto", "(I)I"⟩
abbrev cX1_holdsSoWet : ByteArray := prog_3_method_10_code
def yX1_holdsSoWet : MethodName := ⟨RX1, "holdsSoWet", "(I)I"⟩
abbrev cX1_holdsAt : ByteArray := prog_3_method_11_code
def yX1_holdsAt : MethodName := ⟨RX1, "holdsAt", "(I)I"⟩
abbrev cX1_hangsOn : ByteArray := prog_3_method_12_code
def yX1_hangsOn : MethodName := ⟨RX1, "hangsOn", "(I)I"⟩
abbrev cX1_breakingCell : ByteArray := prog_3_method_13_code
def yX1_breakingCell : MethodName := ⟨RX1, "breakingCell", "()I"⟩
abbrev cX1_loseBelow : ByteArray := prog_3_method_14_code
def yX1_loseBelow : MethodName := ⟨RX1, "loseBelow", "(I)V"⟩
abbrev cX1_turnAbout : ByteArray := prog_3_method_15_code
def yX1_turnAbout : MethodName := ⟨RX1, "turnAbout", "()V"⟩
def RX2 : String := "DunkedBiscuits$Dunk"
def TX2 : u_T := fun k => match k with
  | 0 => ("DunkedBiscuits$Dunk", "biscuit", "LDunkedBiscuits$Biscuit;", true)
  | 1 => ("DunkedBiscuits$Dunk", "heat", "I", false)
  | 2 => ("DunkedBiscuits$Dunk", "depth", "I", false)
  | 3 => ("DunkedBiscuits$Dunk", "seconds", "I", false)
  | 4 => ("DunkedBiscuits$Dunk", "brokeFirst", "I", false)
  | 5 => ("DunkedBiscuits$Dunk", "gone", "I", false)
  | _ => ("DunkedBiscuits$Dunk", "took", "I", false)
def tyX2 : Nat → FieldType := fun k => match k with
  | 0 => .object "DunkedBiscuits$Biscuit"
  | 1 => .int
  | 2 => .int
  | 3 => .int
  | 4 => .int
  | 5 => .int
  | _ => .int
theorem nmX2 : ∀ a, a < 7 → ∀ b, b < 7 → a ≠ b → (TX2 a).2.1 ≠ (TX2 b).2.1 := by decide +kernel
theorem tyX2_ok : ∀ k, k < 7 → parseFieldDescriptor (TX2 k).2.2.1 = some (tyX2 k) := by decide +kernel
abbrev cX2_init : ByteArray := prog_4_method_1_code
def yX2_init : MethodName := ⟨RX2, "<init>", "()V"⟩
abbrev cX2_begin : ByteArray := prog_4_method_2_code
def yX2_begin : MethodName := ⟨RX2, "begin", "(LDunkedBiscuits$Biscuit;I)V"⟩
abbrev cX2_beginDry : ByteArray := prog_4_method_3_code
def yX2_beginDry : MethodName := ⟨RX2, "beginDry", "(LDunkedBiscuits$Biscuit;I)V"⟩
abbrev cX2_become : ByteArray := prog_4_method_4_code
def yX2_become : MethodName := ⟨RX2, "become", "(LDunkedBiscuits$Dunk;)V"⟩
abbrev cX2_isWhole : ByteArray := prog_4_method_5_code
def yX2_isWhole : MethodName := ⟨RX2, "isWhole", "()Z"⟩
abbrev cX2_enter : ByteArray := prog_4_method_6_code
def yX2_enter : MethodName := ⟨RX2, "enter", "(I)V"⟩
abbrev cX2_stay : ByteArray := prog_4_method_7_code
def yX2_stay : MethodName := ⟨RX2, "stay", "(II)V"⟩
abbrev cX2_second : ByteArray := prog_4_method_8_code
def yX2_second : MethodName := ⟨RX2, "second", "()Z"⟩
def RX3 : String := "DunkedBiscuits$Reader"
def TX3 : u_T := fun k => match k with
  | 0 => ("DunkedBiscuits$Reader", "state", "LDunkedBiscuits$State;", true)
  | 1 => ("DunkedBiscuits$Reader", "dunk", "LDunkedBiscuits$Dunk;", true)
  | 2 => ("DunkedBiscuits$Reader", "text", "[I", true)
  | 3 => ("DunkedBiscuits$Reader", "numbers", "[I", true)
  | 4 => ("DunkedBiscuits$Reader", "length", "I", false)
  | 5 => ("DunkedBiscuits$Reader", "place", "I", false)
  | _ => ("DunkedBiscuits$Reader", "fault", "I", false)
def tyX3 : Nat → FieldType := fun k => match k with
  | 0 => .object "DunkedBiscuits$State"
  | 1 => .object "DunkedBiscuits$Dunk"
  | 2 => .array .int
  | 3 => .array .int
  | 4 => .int
  | 5 => .int
  | _ => .int
theorem nmX3 : ∀ a, a < 7 → ∀ b, b < 7 → a ≠ b → (TX3 a).2.1 ≠ (TX3 b).2.1 := by decide +kernel
theorem tyX3_ok : ∀ k, k < 7 → parseFieldDescriptor (TX3 k).2.2.1 = some (tyX3 k) := by decide +kernel
abbrev cX3_init : ByteArray := prog_5_method_1_code
def yX3_init : MethodName := ⟨RX3, "<init>", "(LDunkedBiscuits$State;LDunkedBiscuits$Dunk;)V"⟩
abbrev cX3_read : ByteArray := prog_5_method_2_code
def yX3_read : MethodName := ⟨RX3, "read", "(LDunkedBiscuits$Shelf;)I"⟩
abbrev cX3_letter : ByteArray := prog_5_method_3_code
def yX3_letter : MethodName := ⟨RX3, "letter", "(I)I"⟩
abbrev cX3_takes : ByteArray := prog_5_method_4_code
def yX3_takes : MethodName := ⟨RX3, "takes", "(C)Z"⟩
abbrev cX3_readWord : ByteArray := prog_5_method_5_code
def yX3_readWord : MethodName := ⟨RX3, "readWord", "()I"⟩
abbrev cX3_standsWhole : ByteArray := prog_5_method_6_code
def yX3_standsWhole : MethodName := ⟨RX3, "standsWhole", "(II)I"⟩
abbrev cX3_readNumbers : ByteArray := prog_5_method_7_code
def yX3_readNumbers : MethodName := ⟨RX3, "readNumbers", "(I)Z"⟩
abbrev cX3_readNumber : ByteArray := prog_5_method_8_code
def yX3_readNumber : MethodName := ⟨RX3, "readNumber", "(II)Z"⟩
abbrev cX3_lettersOf : ByteArray := prog_5_method_9_code
def yX3_lettersOf : MethodName := ⟨RX3, "lettersOf", "(I)Ljava/lang/String;"⟩
abbrev cX3_numbersOf : ByteArray := prog_5_method_10_code
def yX3_numbersOf : MethodName := ⟨RX3, "numbersOf", "(I)I"⟩
abbrev cX3_mayBe : ByteArray := prog_5_method_11_code
def yX3_mayBe : MethodName := ⟨RX3, "mayBe", "(III)Z"⟩
abbrev cX3_tell : ByteArray := prog_5_method_12_code
def yX3_tell : MethodName := ⟨RX3, "tell", "(I)V"⟩
def RX4 : String := "DunkedBiscuits$Shelf"
def TX4 : u_T := fun k => match k with
  | 0 => ("DunkedBiscuits$Shelf", "elements", "[J", true)
  | 1 => ("DunkedBiscuits$Shelf", "sort", "I", false)
  | 2 => ("DunkedBiscuits$Shelf", "length", "I", false)
  | _ => ("DunkedBiscuits$Shelf", "biscuit", "I", false)
def tyX4 : Nat → FieldType := fun k => match k with
  | 0 => .array .long
  | 1 => .int
  | 2 => .int
  | _ => .int
theorem nmX4 : ∀ a, a < 4 → ∀ b, b < 4 → a ≠ b → (TX4 a).2.1 ≠ (TX4 b).2.1 := by decide +kernel
theorem tyX4_ok : ∀ k, k < 4 → parseFieldDescriptor (TX4 k).2.2.1 = some (tyX4 k) := by decide +kernel
abbrev cX4_init : ByteArray := prog_6_method_1_code
def yX4_init : MethodName := ⟨RX4, "<init>", "()V"⟩
abbrev cX4_takeRow : ByteArray := prog_6_method_2_code
def yX4_takeRow : MethodName := ⟨RX4, "takeRow", "(II)V"⟩
abbrev cX4_takeBiscuit : ByteArray := prog_6_method_3_code
def yX4_takeBiscuit : MethodName := ⟨RX4, "takeBiscuit", "(I)V"⟩
abbrev cX4_holdsRow : ByteArray := prog_6_method_4_code
def yX4_holdsRow : MethodName := ⟨RX4, "holdsRow", "()Z"⟩
abbrev cX4_tellsWhatItHolds : ByteArray := prog_6_method_5_code
def yX4_tellsWhatItHolds : MethodName := ⟨RX4, "tellsWhatItHolds", "()I"⟩
abbrev cX4_hasElement : ByteArray := prog_6_method_6_code
def yX4_hasElement : MethodName := ⟨RX4, "hasElement", "(I)Z"⟩
abbrev cX4_elementAt : ByteArray := prog_6_method_7_code
def yX4_elementAt : MethodName := ⟨RX4, "elementAt", "(I)J"⟩
abbrev cX4_put : ByteArray := prog_6_method_8_code
def yX4_put : MethodName := ⟨RX4, "put", "(IJ)V"⟩
abbrev cX4_lowestBits : ByteArray := prog_6_method_9_code
def yX4_lowestBits : MethodName := ⟨RX4, "lowestBits", "(J)J"⟩
def RX5 : String := "DunkedBiscuits$State"
def TX5 : u_T := fun k => match k with
  | 0 => ("DunkedBiscuits$State", "biscuits", "[LDunkedBiscuits$Biscuit;", true)
  | 1 => ("DunkedBiscuits$State", "worths", "[I", true)
  | 2 => ("DunkedBiscuits$State", "count", "I", false)
  | 3 => ("DunkedBiscuits$State", "heat", "I", false)
  | 4 => ("DunkedBiscuits$State", "loss", "I", false)
  | 5 => ("DunkedBiscuits$State", "tea", "I", false)
  | 6 => ("DunkedBiscuits$State", "sludge", "I", false)
  | 7 => ("DunkedBiscuits$State", "pleasure", "I", false)
  | 8 => ("DunkedBiscuits$State", "seconds", "I", false)
  | _ => ("DunkedBiscuits$State", "seed", "I", false)
def tyX5 : Nat → FieldType := fun k => match k with
  | 0 => .array (.object "DunkedBiscuits$Biscuit")
  | 1 => .array .int
  | 2 => .int
  | 3 => .int
  | 4 => .int
  | 5 => .int
  | 6 => .int
  | 7 => .int
  | 8 => .int
  | _ => .int
theorem nmX5 : ∀ a, a < 10 → ∀ b, b < 10 → a ≠ b → (TX5 a).2.1 ≠ (TX5 b).2.1 := by decide +kernel
theorem tyX5_ok : ∀ k, k < 10 → parseFieldDescriptor (TX5 k).2.2.1 = some (tyX5 k) := by decide +kernel
abbrev cX5_init : ByteArray := prog_7_method_1_code
def yX5_init : MethodName := ⟨RX5, "<init>", "()V"⟩
abbrev cX5_become : ByteArray := prog_7_method_2_code
def yX5_become : MethodName := ⟨RX5, "become", "(LDunkedBiscuits$State;)V"⟩
abbrev cX5_hasBiscuit : ByteArray := prog_7_method_3_code
def yX5_hasBiscuit : MethodName := ⟨RX5, "hasBiscuit", "(I)Z"⟩
abbrev cX5_hasRoom : ByteArray := prog_7_method_4_code
def yX5_hasRoom : MethodName := ⟨RX5, "hasRoom", "()Z"⟩
abbrev cX5_addBiscuit : ByteArray := prog_7_method_5_code
def yX5_addBiscuit : MethodName := ⟨RX5, "addBiscuit", "(III)I"⟩
abbrev cX5_cellsOfAll : ByteArray := prog_7_method_6_code
def yX5_cellsOfAll : MethodName := ⟨RX5, "cellsOfAll", "()I"⟩
abbrev cX5_worthOfCells : ByteArray := prog_7_method_7_code
def yX5_worthOfCells : MethodName := ⟨RX5, "worthOfCells", "(LDunkedBiscuits$Biscuit;)I"⟩
abbrev cX5_heatAfter : ByteArray := prog_7_method_8_code
def yX5_heatAfter : MethodName := ⟨RX5, "heatAfter", "(I)I"⟩
abbrev cX5_pass : ByteArray := prog_7_method_9_code
def yX5_pass : MethodName := ⟨RX5, "pass", "(I)V"⟩
abbrev cX5_dipInTruth : ByteArray := prog_7_method_10_code
def yX5_dipInTruth : MethodName := ⟨RX5, "dipInTruth", "(IIILDunkedBiscuits$Dunk;)I"⟩
abbrev cX5_carryInTruth : ByteArray := prog_7_method_11_code
def yX5_carryInTruth : MethodName := ⟨RX5, "carryInTruth", "(IILDunkedBiscuits$Dunk;)I"⟩
abbrev cX5_eat : ByteArray := prog_7_method_12_code
def yX5_eat : MethodName := ⟨RX5, "eat", "(I)I"⟩
abbrev cX5_takeTea : ByteArray := prog_7_method_13_code
def yX5_takeTea : MethodName := ⟨RX5, "takeTea", "(LDunkedBiscuits$Dunk;)I"⟩
abbrev cX5_draw : ByteArray := prog_7_method_14_code
def yX5_draw : MethodName := ⟨RX5, "draw", "(I)I"⟩
def RX6 : String := "DunkedBiscuits"
def TX6 : u_T := fun k => match k with
  | 0 => ("DunkedBiscuits", "shelves", "[LDunkedBiscuits$Shelf;", true)
  | 1 => ("DunkedBiscuits", "now", "LDunkedBiscuits$State;", true)
  | 2 => ("DunkedBiscuits", "imaged", "LDunkedBiscuits$State;", true)
  | 3 => ("DunkedBiscuits", "trial", "LDunkedBiscuits$State;", true)
  | 4 => ("DunkedBiscuits", "dunk", "LDunkedBiscuits$Dunk;", true)
  | 5 => ("DunkedBiscuits", "onward", "LDunkedBiscuits$Dunk;", true)
  | 6 => ("DunkedBiscuits", "reader", "LDunkedBiscuits$Reader;", true)
  | 7 => ("DunkedBiscuits", "latestAct", "LDunkedBiscuits$Act;", true)
  | 8 => ("DunkedBiscuits", "aside", "LDunkedBiscuits$Biscuit;", true)
  | 9 => ("DunkedBiscuits", "refusals", "[I", true)
  | 10 => ("DunkedBiscuits", "plateWorths", "[I", true)
  | 11 => ("DunkedBiscuits", "order", "[I", true)
  | 12 => ("DunkedBiscuits", "bestOrder", "[I", true)
  | 13 => ("DunkedBiscuits", "hasImage", "Z", false)
  | _ => ("DunkedBiscuits", "latestFault", "I", false)
def tyX6 : Nat → FieldType := fun k => match k with
  | 0 => .array (.object "DunkedBiscuits$Shelf")
  | 1 => .object "DunkedBiscuits$State"
  | 2 => .object "DunkedBiscuits$State"
  | 3 => .object "DunkedBiscuits$State"
  | 4 => .object "DunkedBiscuits$Dunk"
  | 5 => .object "DunkedBiscuits$Dunk"
  | 6 => .object "DunkedBiscuits$Reader"
  | 7 => .object "DunkedBiscuits$Act"
  | 8 => .object "DunkedBiscuits$Biscuit"
  | 9 => .array .int
  | 10 => .array .int
  | 11 => .array .int
  | 12 => .array .int
  | 13 => .boolean
  | _ => .int
theorem nmX6 : ∀ a, a < 15 → ∀ b, b < 15 → a ≠ b → (TX6 a).2.1 ≠ (TX6 b).2.1 := by decide +kernel
theorem tyX6_ok : ∀ k, k < 15 → parseFieldDescriptor (TX6 k).2.2.1 = some (tyX6 k) := by decide +kernel
abbrev cX6_init : ByteArray := prog_1_method_1_code
def yX6_init : MethodName := ⟨RX6, "<init>", "()V"⟩
abbrev cX6_row : ByteArray := prog_1_method_2_code
def yX6_row : MethodName := ⟨RX6, "row", "(III)I"⟩
abbrev cX6_set : ByteArray := prog_1_method_3_code
def yX6_set : MethodName := ⟨RX6, "set", "(IIJ)I"⟩
abbrev cX6_copy : ByteArray := prog_1_method_4_code
def yX6_copy : MethodName := ⟨RX6, "copy", "(IIIII)I"⟩
abbrev cX6_element : ByteArray := prog_1_method_5_code
def yX6_element : MethodName := ⟨RX6, "element", "(II)J"⟩
abbrev cX6_show : ByteArray := prog_1_method_6_code
def yX6_show : MethodName := ⟨RX6, "show", "(II)I"⟩
abbrev cX6_holds : ByteArray := prog_1_method_7_code
def yX6_holds : MethodName := ⟨RX6, "holds", "(I)I"⟩
abbrev cX6_says : ByteArray := prog_1_method_8_code
def yX6_says : MethodName := ⟨RX6, "says", "(II)I"⟩
abbrev cX6_biscuit : ByteArray := prog_1_method_9_code
def yX6_biscuit : MethodName := ⟨RX6, "biscuit", "(III)I"⟩
abbrev cX6_biscuitOf : ByteArray := prog_1_method_10_code
def yX6_biscuitOf : MethodName := ⟨RX6, "biscuitOf", "(II)I"⟩
abbrev cX6_wet : ByteArray := prog_1_method_11_code
def yX6_wet : MethodName := ⟨RX6, "wet", "(III)I"⟩
abbrev cX6_ask : ByteArray := prog_1_method_12_code
def yX6_ask : MethodName := ⟨RX6, "ask", "(II)I"⟩
abbrev cX6_worthOf : ByteArray := prog_1_method_13_code
def yX6_worthOf : MethodName := ⟨RX6, "worthOf", "(II)I"⟩
abbrev cX6_table : ByteArray := prog_1_method_14_code
def yX6_table : MethodName := ⟨RX6, "table", "(I)I"⟩
abbrev cX6_fault : ByteArray := prog_1_method_15_code
def yX6_fault : MethodName := ⟨RX6, "fault", "()I"⟩
abbrev cX6_soak : ByteArray := prog_1_method_16_code
def yX6_soak : MethodName := ⟨RX6, "soak", "(II)I"⟩
abbrev cX6_cellOf : ByteArray := prog_1_method_17_code
def yX6_cellOf : MethodName := ⟨RX6, "cellOf", "(III)I"⟩
abbrev cX6_breaks : ByteArray := prog_1_method_18_code
def yX6_breaks : MethodName := ⟨RX6, "breaks", "(I)I"⟩
abbrev cX6_left : ByteArray := prog_1_method_19_code
def yX6_left : MethodName := ⟨RX6, "left", "(IIII)I"⟩
abbrev cX6_wetness : ByteArray := prog_1_method_20_code
def yX6_wetness : MethodName := ⟨RX6, "wetness", "(IIIII)I"⟩
abbrev cX6_when : ByteArray := prog_1_method_21_code
def yX6_when : MethodName := ⟨RX6, "when", "(IIII)I"⟩
abbrev cX6_longest : ByteArray := prog_1_method_22_code
def yX6_longest : MethodName := ⟨RX6, "longest", "(III)I"⟩
abbrev cX6_far : ByteArray := prog_1_method_23_code
def yX6_far : MethodName := ⟨RX6, "far", "(III)I"⟩
abbrev cX6_worth : ByteArray := prog_1_method_24_code
def yX6_worth : MethodName := ⟨RX6, "worth", "(IIII)I"⟩
abbrev cX6_best : ByteArray := prog_1_method_25_code
def yX6_best : MethodName := ⟨RX6, "best", "(III)I"⟩
abbrev cX6_twice : ByteArray := prog_1_method_26_code
def yX6_twice : MethodName := ⟨RX6, "twice", "(IIIII)I"⟩
abbrev cX6_goes : ByteArray := prog_1_method_27_code
def yX6_goes : MethodName := ⟨RX6, "goes", "(III)I"⟩
abbrev cX6_plate : ByteArray := prog_1_method_28_code
def yX6_plate : MethodName := ⟨RX6, "plate", "(IIII)I"⟩
abbrev cX6_rule : ByteArray := prog_1_method_29_code
def yX6_rule : MethodName := ⟨RX6, "rule", "(IIII)I"⟩
abbrev cX6_back : ByteArray := prog_1_method_30_code
def yX6_back : MethodName := ⟨RX6, "back", "(III)J"⟩
abbrev cX6_heats : ByteArray := prog_1_method_31_code
def yX6_heats : MethodName := ⟨RX6, "heats", "(IIII)I"⟩
abbrev cX6_fetch : ByteArray := prog_1_method_32_code
def yX6_fetch : MethodName := ⟨RX6, "fetch", "(II)I"⟩
abbrev cX6_dip : ByteArray := prog_1_method_33_code
def yX6_dip : MethodName := ⟨RX6, "dip", "(III)I"⟩
abbrev cX6_carry : ByteArray := prog_1_method_34_code
def yX6_carry : MethodName := ⟨RX6, "carry", "(II)I"⟩
abbrev cX6_turn : ByteArray := prog_1_method_35_code
def yX6_turn : MethodName := ⟨RX6, "turn", "(I)I"⟩
abbrev cX6_eats : ByteArray := prog_1_method_36_code
def yX6_eats : MethodName := ⟨RX6, "eats", "(I)I"⟩
abbrev cX6_teas : ByteArray := prog_1_method_37_code
def yX6_teas : MethodName := ⟨RX6, "teas", "(I)I"⟩
abbrev cX6_seed : ByteArray := prog_1_method_38_code
def yX6_seed : MethodName := ⟨RX6, "seed", "(I)I"⟩
abbrev cX6_act : ByteArray := prog_1_method_39_code
def yX6_act : MethodName := ⟨RX6, "act", "(III)I"⟩
abbrev cX6_trace : ByteArray := prog_1_method_40_code
def yX6_trace : MethodName := ⟨RX6, "trace", "(I)I"⟩
abbrev cX6_image : ByteArray := prog_1_method_41_code
def yX6_image : MethodName := ⟨RX6, "image", "()I"⟩
abbrev cX6_restore : ByteArray := prog_1_method_42_code
def yX6_restore : MethodName := ⟨RX6, "restore", "()I"⟩
abbrev cX6_status : ByteArray := prog_1_method_43_code
def yX6_status : MethodName := ⟨RX6, "status", "(I)I"⟩
abbrev cX6_refused : ByteArray := prog_1_method_44_code
def yX6_refused : MethodName := ⟨RX6, "refused", "(I)I"⟩
abbrev cX6_isWithin : ByteArray := prog_1_method_45_code
def yX6_isWithin : MethodName := ⟨RX6, "isWithin", "(III)Z"⟩
abbrev cX6_isShelf : ByteArray := prog_1_method_46_code
def yX6_isShelf : MethodName := ⟨RX6, "isShelf", "(I)Z"⟩
abbrev cX6_isCell : ByteArray := prog_1_method_47_code
def yX6_isCell : MethodName := ⟨RX6, "isCell", "(II)Z"⟩
abbrev cX6_mayBeDunk : ByteArray := prog_1_method_48_code
def yX6_mayBeDunk : MethodName := ⟨RX6, "mayBeDunk", "(III)Z"⟩
abbrev cX6_whyNoRow : ByteArray := prog_1_method_49_code
def yX6_whyNoRow : MethodName := ⟨RX6, "whyNoRow", "(I)I"⟩
abbrev cX6_whyNoCopy : ByteArray := prog_1_method_50_code
def yX6_whyNoCopy : MethodName := ⟨RX6, "whyNoCopy", "(IIIII)I"⟩
abbrev cX6_whyNoDunk : ByteArray := prog_1_method_51_code
def yX6_whyNoDunk : MethodName := ⟨RX6, "whyNoDunk", "(IIII)I"⟩
abbrev cX6_whyNotInTruth : ByteArray := prog_1_method_52_code
def yX6_whyNotInTruth : MethodName := ⟨RX6, "whyNotInTruth", "(IIII)I"⟩
abbrev cX6_whyNotBack : ByteArray := prog_1_method_53_code
def yX6_whyNotBack : MethodName := ⟨RX6, "whyNotBack", "(II)I"⟩
abbrev cX6_dunkAndCarry : ByteArray := prog_1_method_54_code
def yX6_dunkAndCarry : MethodName := ⟨RX6, "dunkAndCarry", "(LDunkedBiscuits$Biscuit;III)V"⟩
abbrev cX6_saysAs : ByteArray := prog_1_method_55_code
def yX6_saysAs : MethodName := ⟨RX6, "saysAs", "(LDunkedBiscuits$Biscuit;I)I"⟩
abbrev cX6_bestDip : ByteArray := prog_1_method_56_code
def yX6_bestDip : MethodName := ⟨RX6, "bestDip", "(LDunkedBiscuits$Biscuit;I)I"⟩
abbrev cX6_isAsWetAs : ByteArray := prog_1_method_57_code
def yX6_isAsWetAs : MethodName := ⟨RX6, "isAsWetAs", "(LDunkedBiscuits$Biscuit;LDunkedBiscuits$Shelf;)Z"⟩
abbrev cX6_fillPlateWorths : ByteArray := prog_1_method_58_code
def yX6_fillPlateWorths : MethodName := ⟨RX6, "fillPlateWorths", "(III)V"⟩
abbrev cX6_findBestOrder : ByteArray := prog_1_method_59_code
def yX6_findBestOrder : MethodName := ⟨RX6, "findBestOrder", "()I"⟩
abbrev cX6_toNextOrder : ByteArray := prog_1_method_60_code
def yX6_toNextOrder : MethodName := ⟨RX6, "toNextOrder", "(I)Z"⟩
abbrev cX6_swapInOrder : ByteArray := prog_1_method_61_code
def yX6_swapInOrder : MethodName := ⟨RX6, "swapInOrder", "(II)V"⟩
def RX7 : String := "DunkedBiscuitsModel"
def TX7 : u_T := fun k => match k with
  | 0 => ("DunkedBiscuitsModel", "many", "I", false)
  | 1 => ("DunkedBiscuitsModel", "heat", "I", false)
  | 2 => ("DunkedBiscuitsModel", "loss", "I", false)
  | 3 => ("DunkedBiscuitsModel", "tea", "I", false)
  | 4 => ("DunkedBiscuitsModel", "sludge", "I", false)
  | 5 => ("DunkedBiscuitsModel", "pleasure", "I", false)
  | 6 => ("DunkedBiscuitsModel", "seconds", "I", false)
  | 7 => ("DunkedBiscuitsModel", "seed", "I", false)
  | 8 => ("DunkedBiscuitsModel", "fault", "I", false)
  | 9 => ("DunkedBiscuitsModel", "refused", "[I", true)
  | 10 => ("DunkedBiscuitsModel", "kind", "[I", true)
  | 11 => ("DunkedBiscuitsModel", "part", "[I", true)
  | 12 => ("DunkedBiscuitsModel", "high", "[I", true)
  | 13 => ("DunkedBiscuitsModel", "soft", "[I", true)
  | 14 => ("DunkedBiscuitsModel", "good", "[I", true)
  | 15 => ("DunkedBiscuitsModel", "held", "[I", true)
  | 16 => ("DunkedBiscuitsModel", "sort", "[I", true)
  | 17 => ("DunkedBiscuitsModel", "size", "[I", true)
  | 18 => ("DunkedBiscuitsModel", "shown", "[I", true)
  | 19 => ("DunkedBiscuitsModel", "cells", "[J", true)
  | 20 => ("DunkedBiscuitsModel", "carried", "[J", true)
  | 21 => ("DunkedBiscuitsModel", "words", "[I", true)
  | 22 => ("DunkedBiscuitsModel", "tell", "[I", true)
  | 23 => ("DunkedBiscuitsModel", "base", "I", false)
  | 24 => ("DunkedBiscuitsModel", "at", "I", false)
  | 25 => ("DunkedBiscuitsModel", "end", "I", false)
  | 26 => ("DunkedBiscuitsModel", "told", "I", false)
  | 27 => ("DunkedBiscuitsModel", "wrongAt", "I", false)
  | 28 => ("DunkedBiscuitsModel", "was", "[I", true)
  | 29 => ("DunkedBiscuitsModel", "kept", "[I", true)
  | 30 => ("DunkedBiscuitsModel", "bread", "[I", true)
  | 31 => ("DunkedBiscuitsModel", "then", "[I", true)
  | 32 => ("DunkedBiscuitsModel", "length", "I", false)
  | 33 => ("DunkedBiscuitsModel", "deep", "I", false)
  | 34 => ("DunkedBiscuitsModel", "took", "I", false)
  | 35 => ("DunkedBiscuitsModel", "gone", "I", false)
  | 36 => ("DunkedBiscuitsModel", "firstBreak", "I", false)
  | 37 => ("DunkedBiscuitsModel", "order", "[I", true)
  | 38 => ("DunkedBiscuitsModel", "bestOrder", "[I", true)
  | 39 => ("DunkedBiscuitsModel", "bestWorth", "I", false)
  | 40 => ("DunkedBiscuitsModel", "trace", "[I", true)
  | 41 => ("DunkedBiscuitsModel", "ran", "I", false)
  | _ => ("DunkedBiscuitsModel", "isKept", "Z", false)
def tyX7 : Nat → FieldType := fun k => match k with
  | 0 => .int
  | 1 => .int
  | 2 => .int
  | 3 => .int
  | 4 => .int
  | 5 => .int
  | 6 => .int
  | 7 => .int
  | 8 => .int
  | 9 => .array .int
  | 10 => .array .int
  | 11 => .array .int
  | 12 => .array .int
  | 13 => .array .int
  | 14 => .array .int
  | 15 => .array .int
  | 16 => .array .int
  | 17 => .array .int
  | 18 => .array .int
  | 19 => .array .long
  | 20 => .array .long
  | 21 => .array .int
  | 22 => .array .int
  | 23 => .int
  | 24 => .int
  | 25 => .int
  | 26 => .int
  | 27 => .int
  | 28 => .array .int
  | 29 => .array .int
  | 30 => .array .int
  | 31 => .array .int
  | 32 => .int
  | 33 => .int
  | 34 => .int
  | 35 => .int
  | 36 => .int
  | 37 => .array .int
  | 38 => .array .int
  | 39 => .int
  | 40 => .array .int
  | 41 => .int
  | _ => .boolean
theorem nmX7 : ∀ a, a < 43 → ∀ b, b < 43 → a ≠ b → (TX7 a).2.1 ≠ (TX7 b).2.1 := by decide +kernel
theorem tyX7_ok : ∀ k, k < 43 → parseFieldDescriptor (TX7 k).2.2.1 = some (tyX7 k) := by decide +kernel
abbrev cX7_init : ByteArray := prog_9_method_1_code
def yX7_init : MethodName := ⟨RX7, "<init>", "()V"⟩
abbrev cX7_no : ByteArray := prog_9_method_2_code
def yX7_no : MethodName := ⟨RX7, "no", "(I)I"⟩
abbrev cX7_noTen : ByteArray := prog_9_method_3_code
def yX7_noTen : MethodName := ⟨RX7, "noTen", "(I)I"⟩
abbrev cX7_noFar : ByteArray := prog_9_method_4_code
def yX7_noFar : MethodName := ⟨RX7, "noFar", "(I)I"⟩
abbrev cX7_isShelf : ByteArray := prog_9_method_5_code
def yX7_isShelf : MethodName := ⟨RX7, "isShelf", "(I)Z"⟩
abbrev cX7_isBiscuit : ByteArray := prog_9_method_6_code
def yX7_isBiscuit : MethodName := ⟨RX7, "isBiscuit", "(I)Z"⟩
abbrev cX7_isCell : ByteArray := prog_9_method_7_code
def yX7_isCell : MethodName := ⟨RX7, "isCell", "(II)Z"⟩
abbrev cX7_isDeep : ByteArray := prog_9_method_8_code
def yX7_isDeep : MethodName := ⟨RX7, "isDeep", "(I)Z"⟩
abbrev cX7_isLong : ByteArray := prog_9_method_9_code
def yX7_isLong : MethodName := ⟨RX7, "isLong", "(I)Z"⟩
abbrev cX7_row : ByteArray := prog_9_method_10_code
def yX7_row : MethodName := ⟨RX7, "row", "(III)I"⟩
abbrev cX7_set : ByteArray := prog_9_method_11_code
def yX7_set : MethodName := ⟨RX7, "set", "(IIJ)I"⟩
abbrev cX7_copy : ByteArray := prog_9_method_12_code
def yX7_copy : MethodName := ⟨RX7, "copy", "(IIIII)I"⟩
abbrev cX7_element : ByteArray := prog_9_method_13_code
def yX7_element : MethodName := ⟨RX7, "element", "(II)J"⟩
abbrev cX7_show : ByteArray := prog_9_method_14_code
def yX7_show : MethodName := ⟨RX7, "show", "(II)I"⟩
abbrev cX7_holds : ByteArray := prog_9_method_15_code
def yX7_holds : MethodName := ⟨RX7, "holds", "(I)I"⟩
abbrev cX7_says : ByteArray := prog_9_method_16_code
def yX7_says : MethodName := ⟨RX7, "says", "(II)I"⟩
abbrev cX7_wanted : ByteArray := prog_9_method_17_code
def yX7_wanted : MethodName := ⟨RX7, "wanted", "(I)I"⟩
abbrev cX7_adds : ByteArray := prog_9_method_18_code
def yX7_adds : MethodName := ⟨RX7, "adds", "(III)I"⟩
abbrev cX7_biscuit : ByteArray := prog_9_method_19_code
def yX7_biscuit : MethodName := ⟨RX7, "biscuit", "(III)I"⟩
abbrev cX7_biscuitOf : ByteArray := prog_9_method_20_code
def yX7_biscuitOf : MethodName := ⟨RX7, "biscuitOf", "(II)I"⟩
abbrev cX7_wet : ByteArray := prog_9_method_21_code
def yX7_wet : MethodName := ⟨RX7, "wet", "(III)I"⟩
abbrev cX7_ask : ByteArray := prog_9_method_22_code
def yX7_ask : MethodName := ⟨RX7, "ask", "(II)I"⟩
abbrev cX7_worthOf : ByteArray := prog_9_method_23_code
def yX7_worthOf : MethodName := ⟨RX7, "worthOf", "(II)I"⟩
abbrev cX7_wrong : ByteArray := prog_9_method_24_code
def yX7_wrong : MethodName := ⟨RX7, "wrong", "(I)Z"⟩
abbrev cX7_isWordAt : ByteArray := prog_9_method_25_code
def yX7_isWordAt : MethodName := ⟨RX7, "isWordAt", "(I)Z"⟩
abbrev cX7_word : ByteArray := prog_9_method_26_code
def yX7_word : MethodName := ⟨RX7, "word", "()I"⟩
abbrev cX7_isDigit : ByteArray := prog_9_method_27_code
def yX7_isDigit : MethodName := ⟨RX7, "isDigit", "()Z"⟩
abbrev cX7_number : ByteArray := prog_9_method_28_code
def yX7_number : MethodName := ⟨RX7, "number", "()Z"⟩
abbrev cX7_isSo : ByteArray := prog_9_method_29_code
def yX7_isSo : MethodName := ⟨RX7, "isSo", "(II)Z"⟩
abbrev cX7_item : ByteArray := prog_9_method_30_code
def yX7_item : MethodName := ⟨RX7, "item", "()Z"⟩
abbrev cX7_carries : ByteArray := prog_9_method_31_code
def yX7_carries : MethodName := ⟨RX7, "carries", "([II[IIZ)I"⟩
abbrev cX7_all : ByteArray := prog_9_method_32_code
def yX7_all : MethodName := ⟨RX7, "all", "([IZ)V"⟩
abbrev cX7_table : ByteArray := prog_9_method_33_code
def yX7_table : MethodName := ⟨RX7, "table", "(I)I"⟩
abbrev cX7_fault : ByteArray := prog_9_method_34_code
def yX7_fault : MethodName := ⟨RX7, "fault", "()I"⟩
abbrev cX7_soakOf : ByteArray := prog_9_method_35_code
def yX7_soakOf : MethodName := ⟨RX7, "soakOf", "(IIII)I"⟩
abbrev cX7_lays : ByteArray := prog_9_method_36_code
def yX7_lays : MethodName := ⟨RX7, "lays", "(I)V"⟩
abbrev cX7_holdsOf : ByteArray := prog_9_method_37_code
def yX7_holdsOf : MethodName := ⟨RX7, "holdsOf", "(II)I"⟩
abbrev cX7_hangsOf : ByteArray := prog_9_method_38_code
def yX7_hangsOf : MethodName := ⟨RX7, "hangsOf", "(I)I"⟩
abbrev cX7_breakOf : ByteArray := prog_9_method_39_code
def yX7_breakOf : MethodName := ⟨RX7, "breakOf", "(I)I"⟩
abbrev cX7_goesBy : ByteArray := prog_9_method_40_code
def yX7_goesBy : MethodName := ⟨RX7, "goesBy", "(II)V"⟩
abbrev cX7_dunks : ByteArray := prog_9_method_41_code
def yX7_dunks : MethodName := ⟨RX7, "dunks", "(IIIII)V"⟩
abbrev cX7_tries : ByteArray := prog_9_method_42_code
def yX7_tries : MethodName := ⟨RX7, "tries", "(IIIII)V"⟩
abbrev cX7_worthNow : ByteArray := prog_9_method_43_code
def yX7_worthNow : MethodName := ⟨RX7, "worthNow", "()I"⟩
abbrev cX7_soak : ByteArray := prog_9_method_44_code
def yX7_soak : MethodName := ⟨RX7, "soak", "(II)I"⟩
abbrev cX7_cellOf : ByteArray := prog_9_method_45_code
def yX7_cellOf : MethodName := ⟨RX7, "cellOf", "(III)I"⟩
abbrev cX7_breaks : ByteArray := prog_9_method_46_code
def yX7_breaks : MethodName := ⟨RX7, "breaks", "(I)I"⟩
abbrev cX7_may : ByteArray := prog_9_method_47_code
def yX7_may : MethodName := ⟨RX7, "may", "(III)Z"⟩
abbrev cX7_left : ByteArray := prog_9_method_48_code
def yX7_left : MethodName := ⟨RX7, "left", "(IIII)I"⟩
abbrev cX7_wetness : ByteArray := prog_9_method_49_code
def yX7_wetness : MethodName := ⟨RX7, "wetness", "(IIIII)I"⟩
abbrev cX7_when : ByteArray := prog_9_method_50_code
def yX7_when : MethodName := ⟨RX7, "when", "(IIII)I"⟩
abbrev cX7_isWhole : ByteArray := prog_9_method_51_code
def yX7_isWhole : MethodName := ⟨RX7, "isWhole", "(IIII)Z"⟩
abbrev cX7_longest : ByteArray := prog_9_method_52_code
def yX7_longest : MethodName := ⟨RX7, "longest", "(III)I"⟩
abbrev cX7_far : ByteArray := prog_9_method_53_code
def yX7_far : MethodName := ⟨RX7, "far", "(III)I"⟩
abbrev cX7_worth : ByteArray := prog_9_method_54_code
def yX7_worth : MethodName := ⟨RX7, "worth", "(IIII)I"⟩
abbrev cX7_turns : ByteArray := prog_9_method_55_code
def yX7_turns : MethodName := ⟨RX7, "turns", "(I)V"⟩
abbrev cX7_turnsRow : ByteArray := prog_9_method_56_code
def yX7_turnsRow : MethodName := ⟨RX7, "turnsRow", "()V"⟩
abbrev cX7_best : ByteArray := prog_9_method_57_code
def yX7_best : MethodName := ⟨RX7, "best", "(III)I"⟩
abbrev cX7_twice : ByteArray := prog_9_method_58_code
def yX7_twice : MethodName := ⟨RX7, "twice", "(IIIII)I"⟩
abbrev cX7_goes : ByteArray := prog_9_method_59_code
def yX7_goes : MethodName := ⟨RX7, "goes", "(III)I"⟩
abbrev cX7_heatBehind : ByteArray := prog_9_method_60_code
def yX7_heatBehind : MethodName := ⟨RX7, "heatBehind", "(I)I"⟩
abbrev cX7_plates : ByteArray := prog_9_method_61_code
def yX7_plates : MethodName := ⟨RX7, "plates", "(IIIIII)V"⟩
abbrev cX7_plate : ByteArray := prog_9_method_62_code
def yX7_plate : MethodName := ⟨RX7, "plate", "(IIII)I"⟩
abbrev cX7_rule : ByteArray := prog_9_method_63_code
def yX7_rule : MethodName := ⟨RX7, "rule", "(IIII)I"⟩
abbrev cX7_isBack : ByteArray := prog_9_method_64_code
def yX7_isBack : MethodName := ⟨RX7, "isBack", "(IIIII)Z"⟩
abbrev cX7_bars : ByteArray := prog_9_method_65_code
def yX7_bars : MethodName := ⟨RX7, "bars", "(II)I"⟩
abbrev cX7_back : ByteArray := prog_9_method_66_code
def yX7_back : MethodName := ⟨RX7, "back", "(III)J"⟩
abbrev cX7_heats : ByteArray := prog_9_method_67_code
def yX7_heats : MethodName := ⟨RX7, "heats", "(IIII)I"⟩
abbrev cX7_fetch : ByteArray := prog_9_method_68_code
def yX7_fetch : MethodName := ⟨RX7, "fetch", "(II)I"⟩
abbrev cX7_passes : ByteArray := prog_9_method_69_code
def yX7_passes : MethodName := ⟨RX7, "passes", "(I)V"⟩
abbrev cX7_stays : ByteArray := prog_9_method_70_code
def yX7_stays : MethodName := ⟨RX7, "stays", "(I)V"⟩
abbrev cX7_dips : ByteArray := prog_9_method_71_code
def yX7_dips : MethodName := ⟨RX7, "dips", "(III)I"⟩
abbrev cX7_dip : ByteArray := prog_9_method_72_code
def yX7_dip : MethodName := ⟨RX7, "dip", "(III)I"⟩
abbrev cX7_carriesOff : ByteArray := prog_9_method_73_code
def yX7_carriesOff : MethodName := ⟨RX7, "carriesOff", "(II)I"⟩
abbrev cX7_carry : ByteArray := prog_9_method_74_code
def yX7_carry : MethodName := ⟨RX7, "carry", "(II)I"⟩
abbrev cX7_turn : ByteArray := prog_9_method_75_code
def yX7_turn : MethodName := ⟨RX7, "turn", "(I)I"⟩
abbrev cX7_eaten : ByteArray := prog_9_method_76_code
def yX7_eaten : MethodName := ⟨RX7, "eaten", "(I)I"⟩
abbrev cX7_eats : ByteArray := prog_9_method_77_code
def yX7_eats : MethodName := ⟨RX7, "eats", "(I)I"⟩
abbrev cX7_draw : ByteArray := prog_9_method_78_code
def yX7_draw : MethodName := ⟨RX7, "draw", "(I)I"⟩
abbrev cX7_teas : ByteArray := prog_9_method_79_code
def yX7_teas : MethodName := ⟨RX7, "teas", "(I)I"⟩
abbrev cX7_seed : ByteArray := prog_9_method_80_code
def yX7_seed : MethodName := ⟨RX7, "seed", "(I)I"⟩
abbrev cX7_body : ByteArray := prog_9_method_81_code
def yX7_body : MethodName := ⟨RX7, "body", "(I)V"⟩
abbrev cX7_soaking : ByteArray := prog_9_method_82_code
def yX7_soaking : MethodName := ⟨RX7, "soaking", "(II)I"⟩
abbrev cX7_creeping : ByteArray := prog_9_method_83_code
def yX7_creeping : MethodName := ⟨RX7, "creeping", "(II)I"⟩
abbrev cX7_breaking : ByteArray := prog_9_method_84_code
def yX7_breaking : MethodName := ⟨RX7, "breaking", "(II)I"⟩
abbrev cX7_act : ByteArray := prog_9_method_85_code
def yX7_act : MethodName := ⟨RX7, "act", "(III)I"⟩
abbrev cX7_trace : ByteArray := prog_9_method_86_code
def yX7_trace : MethodName := ⟨RX7, "trace", "(I)I"⟩
abbrev cX7_image : ByteArray := prog_9_method_87_code
def yX7_image : MethodName := ⟨RX7, "image", "()I"⟩
abbrev cX7_restore : ByteArray := prog_9_method_88_code
def yX7_restore : MethodName := ⟨RX7, "restore", "()I"⟩
abbrev cX7_status : ByteArray := prog_9_method_89_code
def yX7_status : MethodName := ⟨RX7, "status", "(I)I"⟩
def RJ9 : String := "java/lang/Math"
def TJ9 : u_T := fun k => match k with
  | _ => ("", "", "", false)
def tyJ9 : Nat → FieldType := fun k => match k with
  | _ => .int
theorem nmJ9 : ∀ a, a < 0 → ∀ b, b < 0 → a ≠ b → (TJ9 a).2.1 ≠ (TJ9 b).2.1 := by decide +kernel
theorem tyJ9_ok : ∀ k, k < 0 → parseFieldDescriptor (TJ9 k).2.2.1 = some (tyJ9 k) := by decide +kernel
abbrev cJ9_max_7cf53 : ByteArray := prog_10_method_65_code
def yJ9_max_7cf53 : MethodName := ⟨RJ9, "max", "(II)I"⟩
abbrev cJ9_min_7cf53 : ByteArray := prog_10_method_69_code
def yJ9_min_7cf53 : MethodName := ⟨RJ9, "min", "(II)I"⟩
def RJ0 : String := "java/lang/String"
def TJ0 : u_T := fun k => match k with
  | _ => ("", "", "", false)
def tyJ0 : Nat → FieldType := fun k => match k with
  | _ => .int
theorem nmJ0 : ∀ a, a < 0 → ∀ b, b < 0 → a ≠ b → (TJ0 a).2.1 ≠ (TJ0 b).2.1 := by decide +kernel
theorem tyJ0_ok : ∀ k, k < 0 → parseFieldDescriptor (TJ0 k).2.2.1 = some (tyJ0 k) := by decide +kernel
abbrev cJ0_length_8abf5 : ByteArray := prog_11_method_54_code
def yJ0_length_8abf5 : MethodName := ⟨RJ0, "length", "()I"⟩
abbrev cJ0_charAt_5068e : ByteArray := prog_11_method_56_code
def yJ0_charAt_5068e : MethodName := ⟨RJ0, "charAt", "(I)C"⟩
abbrev cJ0_coder_7d493 : ByteArray := prog_11_method_152_code
def yJ0_coder_7d493 : MethodName := ⟨RJ0, "coder", "()B"⟩
abbrev cJ0_isLatin1_aae02 : ByteArray := prog_11_method_154_code
def yJ0_isLatin1_aae02 : MethodName := ⟨RJ0, "isLatin1", "()Z"⟩
abbrev cJ0_checkIndex_df160 : ByteArray := prog_11_method_155_code
def yJ0_checkIndex_df160 : MethodName := ⟨RJ0, "checkIndex", "(II)V"⟩
def RJ1 : String := "java/lang/StringLatin1"
def TJ1 : u_T := fun k => match k with
  | _ => ("", "", "", false)
def tyJ1 : Nat → FieldType := fun k => match k with
  | _ => .int
theorem nmJ1 : ∀ a, a < 0 → ∀ b, b < 0 → a ≠ b → (TJ1 a).2.1 ≠ (TJ1 b).2.1 := by decide +kernel
theorem tyJ1_ok : ∀ k, k < 0 → parseFieldDescriptor (TJ1 k).2.2.1 = some (tyJ1 k) := by decide +kernel
abbrev cJ1_charAt_3b067 : ByteArray := prog_12_method_2_code
def yJ1_charAt_3b067 : MethodName := ⟨RJ1, "charAt", "([BI)C"⟩
def RJ2 : String := "java/lang/StringUTF16"
def TJ2 : u_T := fun k => match k with
  | _ => ("", "", "", false)
def tyJ2 : Nat → FieldType := fun k => match k with
  | _ => .int
theorem nmJ2 : ∀ a, a < 0 → ∀ b, b < 0 → a ≠ b → (TJ2 a).2.1 ≠ (TJ2 b).2.1 := by decide +kernel
theorem tyJ2_ok : ∀ k, k < 0 → parseFieldDescriptor (TJ2 k).2.2.1 = some (tyJ2 k) := by decide +kernel
abbrev cJ2_getChar_3b067 : ByteArray := prog_13_method_5_code
def yJ2_getChar_3b067 : MethodName := ⟨RJ2, "getChar", "([BI)C"⟩
abbrev cJ2_length_9d52b : ByteArray := prog_13_method_6_code
def yJ2_length_9d52b : MethodName := ⟨RJ2, "length", "([B)I"⟩
abbrev cJ2_charAt_3b067 : ByteArray := prog_13_method_83_code
def yJ2_charAt_3b067 : MethodName := ⟨RJ2, "charAt", "([BI)C"⟩
abbrev cJ2_checkIndex_2214a : ByteArray := prog_13_method_91_code
def yJ2_checkIndex_2214a : MethodName := ⟨RJ2, "checkIndex", "(I[B)V"⟩
def RJ10 : String := "java/lang/System"
def TJ10 : u_T := fun k => match k with
  | _ => ("", "", "", false)
def tyJ10 : Nat → FieldType := fun k => match k with
  | _ => .int
theorem nmJ10 : ∀ a, a < 0 → ∀ b, b < 0 → a ≠ b → (TJ10 a).2.1 ≠ (TJ10 b).2.1 := by decide +kernel
theorem tyJ10_ok : ∀ k, k < 0 → parseFieldDescriptor (TJ10 k).2.2.1 = some (tyJ10 k) := by decide +kernel
def RJ3 : String := "jdk/internal/util/Preconditions"
def TJ3 : u_T := fun k => match k with
  | _ => ("", "", "", false)
def tyJ3 : Nat → FieldType := fun k => match k with
  | _ => .int
theorem nmJ3 : ∀ a, a < 0 → ∀ b, b < 0 → a ≠ b → (TJ3 a).2.1 ≠ (TJ3 b).2.1 := by decide +kernel
theorem tyJ3_ok : ∀ k, k < 0 → parseFieldDescriptor (TJ3 k).2.2.1 = some (tyJ3 k) := by decide +kernel
abbrev cJ3_checkIndex_8e157 : ByteArray := prog_15_method_11_code
def yJ3_checkIndex_8e157 : MethodName := ⟨RJ3, "checkIndex", "(IILjava/util/function/BiFunction;)I"⟩
def RL : String := "DunkedBiscuitsLaw"
abbrev cL_law : ByteArray := code
def yL_law : MethodName := ⟨RL, "law", "([I)Z"⟩
abbrev vwCl : List vw_C := [(RX0, TX0, 5), (RX1, TX1, 4), (RX2, TX2, 7), (RX3, TX3, 7), (RX4, TX4, 4), (RX5, TX5, 10), (RX6, TX6, 15), (RX7, TX7, 43)]
end
section
theorem dX0_init_0 : decode cX0_init 0 = .ok (.aload_n 0, 1) := by decide +kernel
theorem dX0_init_1 : decode cX0_init 1 = .ok (.invokespecial 3, 3) := by decide +kernel
theorem dX0_init_4 : decode cX0_init 4 = .ok (.aload_n 0, 1) := by decide +kernel
theorem dX0_init_5 : decode cX0_init 5 = .ok (.bipush 20, 2) := by decide +kernel
theorem dX0_init_7 : decode cX0_init 7 = .ok (.newarray .int, 2) := by decide +kernel
theorem dX0_init_9 : decode cX0_init 9 = .ok (.putfield 9, 3) := by decide +kernel
theorem dX0_init_12 : decode cX0_init 12 = .ok (.return_, 1) := by decide +kernel
theorem dX0_run_0 : decode cX0_run 0 = .ok (.iload_n 1, 1) := by decide +kernel
theorem dX0_run_1 : decode cX0_run 1 = .ok (.iload_n 2, 1) := by decide +kernel
theorem dX0_run_2 : decode cX0_run 2 = .ok (.invokestatic 15, 3) := by decide +kernel
theorem dX0_run_5 : decode cX0_run 5 = .ok (.istore 5, 2) := by decide +kernel
theorem dX0_run_7 : decode cX0_run 7 = .ok (.iload 5, 2) := by decide +kernel
theorem dX0_run_9 : decode cX0_run 9 = .ok (.iconst (-1), 1) := by decide +kernel
theorem dX0_run_10 : decode cX0_run 10 = .ok (.if_icmp .eq 10, 3) := by decide +kernel
theorem dX0_run_13 : decode cX0_run 13 = .ok (.iload 4, 2) := by decide +kernel
theorem dX0_run_15 : decode cX0_run 15 = .ok (.bipush 40, 2) := by decide +kernel
theorem dX0_run_17 : decode cX0_run 17 = .ok (.if_icmp .le 5, 3) := by decide +kernel
theorem dX0_run_20 : decode cX0_run 20 = .ok (.iconst 0, 1) := by decide +kernel
theorem dX0_run_21 : decode cX0_run 21 = .ok (.ireturn, 1) := by decide +kernel
theorem dX0_run_22 : decode cX0_run 22 = .ok (.getstatic 19, 3) := by decide +kernel
theorem dX0_run_25 : decode cX0_run 25 = .ok (.iload 5, 2) := by decide +kernel
theorem dX0_run_27 : decode cX0_run 27 = .ok (.iconst 3, 1) := by decide +kernel
theorem dX0_run_28 : decode cX0_run 28 = .ok (.imul, 1) := by decide +kernel
theorem dX0_run_29 : decode cX0_run 29 = .ok (.iload_n 1, 1) := by decide +kernel
theorem dX0_run_30 : decode cX0_run 30 = .ok (.iadd, 1) := by decide +kernel
theorem dX0_run_31 : decode cX0_run 31 = .ok (.iaload, 1) := by decide +kernel
theorem dX0_run_32 : decode cX0_run 32 = .ok (.istore 6, 2) := by decide +kernel
theorem dX0_run_34 : decode cX0_run 34 = .ok (.aload_n 0, 1) := by decide +kernel
theorem dX0_run_35 : decode cX0_run 35 = .ok (.iload 6, 2) := by decide +kernel
theorem dX0_run_37 : decode cX0_run 37 = .ok (.invokevirtual 22, 3) := by decide +kernel
theorem dX0_run_40 : decode cX0_run 40 = .ok (.getstatic 26, 3) := by decide +kernel
theorem dX0_run_43 : decode cX0_run 43 = .ok (.iload 5, 2) := by decide +kernel
theorem dX0_run_45 : decode cX0_run 45 = .ok (.iaload, 1) := by decide +kernel
theorem dX0_run_46 : decode cX0_run 46 = .ok (.istore 7, 2) := by decide +kernel
theorem dX0_run_48 : decode cX0_run 48 = .ok (.iload 4, 2) := by decide +kernel
theorem dX0_run_50 : decode cX0_run 50 = .ok (.iconst 1, 1) := by decide +kernel
theorem dX0_run_51 : decode cX0_run 51 = .ok (.iadd, 1) := by decide +kernel
theorem dX0_run_52 : decode cX0_run 52 = .ok (.istore 8, 2) := by decide +kernel
theorem dX0_run_54 : decode cX0_run 54 = .ok (.iload 6, 2) := by decide +kernel
theorem dX0_run_56 : decode cX0_run 56 = .ok (.lookupswitch 265 #[(10, 100), (11, 107), (12, 122), (20, 153), (30, 169), (40, 182), (50, 195), (51, 207), (60, 223), (70, 236), (71, 249)], 100) := by decide +kernel
theorem dX0_run_156 : decode cX0_run 156 = .ok (.iload_n 3, 1) := by decide +kernel
theorem dX0_run_157 : decode cX0_run 157 = .ok (.aload_n 0, 1) := by decide +kernel
theorem dX0_run_158 : decode cX0_run 158 = .ok (.getfield 29, 3) := by decide +kernel
theorem dX0_run_161 : decode cX0_run 161 = .ok (.iadd, 1) := by decide +kernel
theorem dX0_run_162 : decode cX0_run 162 = .ok (.ireturn, 1) := by decide +kernel
theorem dX0_run_163 : decode cX0_run 163 = .ok (.aload_n 0, 1) := by decide +kernel
theorem dX0_run_164 : decode cX0_run 164 = .ok (.iconst 0, 1) := by decide +kernel
theorem dX0_run_165 : decode cX0_run 165 = .ok (.aload_n 0, 1) := by decide +kernel
theorem dX0_run_166 : decode cX0_run 166 = .ok (.getfield 33, 3) := by decide +kernel
theorem dX0_run_169 : decode cX0_run 169 = .ok (.iload_n 3, 1) := by decide +kernel
theorem dX0_run_170 : decode cX0_run 170 = .ok (.iload 8, 2) := by decide +kernel
theorem dX0_run_172 : decode cX0_run 172 = .ok (.invokestatic 36, 3) := by decide +kernel
theorem dX0_run_175 : decode cX0_run 175 = .ok (.iconst 2, 1) := by decide +kernel
theorem dX0_run_176 : decode cX0_run 176 = .ok (.imul, 1) := by decide +kernel
theorem dX0_run_177 : decode cX0_run 177 = .ok (.ireturn, 1) := by decide +kernel
theorem dX0_run_178 : decode cX0_run 178 = .ok (.aload_n 0, 1) := by decide +kernel
theorem dX0_run_179 : decode cX0_run 179 = .ok (.iconst 1, 1) := by decide +kernel
theorem dX0_run_180 : decode cX0_run 180 = .ok (.aload_n 0, 1) := by decide +kernel
theorem dX0_run_181 : decode cX0_run 181 = .ok (.getfield 33, 3) := by decide +kernel
theorem dX0_run_184 : decode cX0_run 184 = .ok (.iload_n 3, 1) := by decide +kernel
theorem dX0_run_185 : decode cX0_run 185 = .ok (.iload 8, 2) := by decide +kernel
theorem dX0_run_187 : decode cX0_run 187 = .ok (.invokestatic 36, 3) := by decide +kernel
theorem dX0_run_190 : decode cX0_run 190 = .ok (.aload_n 0, 1) := by decide +kernel
theorem dX0_run_191 : decode cX0_run 191 = .ok (.iconst 0, 1) := by decide +kernel
theorem dX0_run_192 : decode cX0_run 192 = .ok (.aload_n 0, 1) := by decide +kernel
theorem dX0_run_193 : decode cX0_run 193 = .ok (.getfield 33, 3) := by decide +kernel
theorem dX0_run_196 : decode cX0_run 196 = .ok (.iload_n 3, 1) := by decide +kernel
theorem dX0_run_197 : decode cX0_run 197 = .ok (.aload_n 0, 1) := by decide +kernel
theorem dX0_run_198 : decode cX0_run 198 = .ok (.getfield 40, 3) := by decide +kernel
theorem dX0_run_201 : decode cX0_run 201 = .ok (.isub, 1) := by decide +kernel
theorem dX0_run_202 : decode cX0_run 202 = .ok (.iload 8, 2) := by decide +kernel
theorem dX0_run_204 : decode cX0_run 204 = .ok (.invokestatic 36, 3) := by decide +kernel
theorem dX0_run_207 : decode cX0_run 207 = .ok (.ixor, 1) := by decide +kernel
theorem dX0_run_208 : decode cX0_run 208 = .ok (.ireturn, 1) := by decide +kernel
theorem dX0_run_209 : decode cX0_run 209 = .ok (.aload_n 0, 1) := by decide +kernel
theorem dX0_run_210 : decode cX0_run 210 = .ok (.iconst 0, 1) := by decide +kernel
theorem dX0_run_211 : decode cX0_run 211 = .ok (.iload 7, 2) := by decide +kernel
theorem dX0_run_213 : decode cX0_run 213 = .ok (.iload_n 3, 1) := by decide +kernel
theorem dX0_run_214 : decode cX0_run 214 = .ok (.iload 8, 2) := by decide +kernel
theorem dX0_run_216 : decode cX0_run 216 = .ok (.invokestatic 36, 3) := by decide +kernel
theorem dX0_run_219 : decode cX0_run 219 = .ok (.aload_n 0, 1) := by decide +kernel
theorem dX0_run_220 : decode cX0_run 220 = .ok (.getfield 40, 3) := by decide +kernel
theorem dX0_run_223 : decode cX0_run 223 = .ok (.iadd, 1) := by decide +kernel
theorem dX0_run_224 : decode cX0_run 224 = .ok (.ireturn, 1) := by decide +kernel
theorem dX0_run_225 : decode cX0_run 225 = .ok (.aload_n 0, 1) := by decide +kernel
theorem dX0_run_226 : decode cX0_run 226 = .ok (.iconst 1, 1) := by decide +kernel
theorem dX0_run_227 : decode cX0_run 227 = .ok (.iload 7, 2) := by decide +kernel
theorem dX0_run_229 : decode cX0_run 229 = .ok (.iload_n 3, 1) := by decide +kernel
theorem dX0_run_230 : decode cX0_run 230 = .ok (.iload 8, 2) := by decide +kernel
theorem dX0_run_232 : decode cX0_run 232 = .ok (.invokestatic 36, 3) := by decide +kernel
theorem dX0_run_235 : decode cX0_run 235 = .ok (.iconst 3, 1) := by decide +kernel
theorem dX0_run_236 : decode cX0_run 236 = .ok (.imul, 1) := by decide +kernel
theorem dX0_run_237 : decode cX0_run 237 = .ok (.ireturn, 1) := by decide +kernel
theorem dX0_run_238 : decode cX0_run 238 = .ok (.aload_n 0, 1) := by decide +kernel
theorem dX0_run_239 : decode cX0_run 239 = .ok (.iconst 1, 1) := by decide +kernel
theorem dX0_run_240 : decode cX0_run 240 = .ok (.iload 7, 2) := by decide +kernel
theorem dX0_run_242 : decode cX0_run 242 = .ok (.iload_n 3, 1) := by decide +kernel
theorem dX0_run_243 : decode cX0_run 243 = .ok (.iconst 1, 1) := by decide +kernel
theorem dX0_run_244 : decode cX0_run 244 = .ok (.iadd, 1) := by decide +kernel
theorem dX0_run_245 : decode cX0_run 245 = .ok (.iload 8, 2) := by decide +kernel
theorem dX0_run_247 : decode cX0_run 247 = .ok (.invokestatic 36, 3) := by decide +kernel
theorem dX0_run_250 : decode cX0_run 250 = .ok (.ireturn, 1) := by decide +kernel
theorem dX0_run_251 : decode cX0_run 251 = .ok (.aload_n 0, 1) := by decide +kernel
theorem dX0_run_252 : decode cX0_run 252 = .ok (.iconst 2, 1) := by decide +kernel
theorem dX0_run_253 : decode cX0_run 253 = .ok (.iload 7, 2) := by decide +kernel
theorem dX0_run_255 : decode cX0_run 255 = .ok (.iload_n 3, 1) := by decide +kernel
theorem dX0_run_256 : decode cX0_run 256 = .ok (.iload 8, 2) := by decide +kernel
theorem dX0_run_258 : decode cX0_run 258 = .ok (.invokestatic 36, 3) := by decide +kernel
theorem dX0_run_261 : decode cX0_run 261 = .ok (.ineg, 1) := by decide +kernel
theorem dX0_run_262 : decode cX0_run 262 = .ok (.ireturn, 1) := by decide +kernel
theorem dX0_run_263 : decode cX0_run 263 = .ok (.aload_n 0, 1) := by decide +kernel
theorem dX0_run_264 : decode cX0_run 264 = .ok (.iconst 0, 1) := by decide +kernel
theorem dX0_run_265 : decode cX0_run 265 = .ok (.iload 7, 2) := by decide +kernel
theorem dX0_run_267 : decode cX0_run 267 = .ok (.iload_n 3, 1) := by decide +kernel
theorem dX0_run_268 : decode cX0_run 268 = .ok (.iload 8, 2) := by decide +kernel
theorem dX0_run_270 : decode cX0_run 270 = .ok (.invokestatic 36, 3) := by decide +kernel
theorem dX0_run_273 : decode cX0_run 273 = .ok (.aload_n 0, 1) := by decide +kernel
theorem dX0_run_274 : decode cX0_run 274 = .ok (.getfield 29, 3) := by decide +kernel
theorem dX0_run_277 : decode cX0_run 277 = .ok (.isub, 1) := by decide +kernel
theorem dX0_run_278 : decode cX0_run 278 = .ok (.ireturn, 1) := by decide +kernel
theorem dX0_run_279 : decode cX0_run 279 = .ok (.aload_n 0, 1) := by decide +kernel
theorem dX0_run_280 : decode cX0_run 280 = .ok (.iconst 2, 1) := by decide +kernel
theorem dX0_run_281 : decode cX0_run 281 = .ok (.iload 7, 2) := by decide +kernel
theorem dX0_run_283 : decode cX0_run 283 = .ok (.iload_n 3, 1) := by decide +kernel
theorem dX0_run_284 : decode cX0_run 284 = .ok (.iload 8, 2) := by decide +kernel
theorem dX0_run_286 : decode cX0_run 286 = .ok (.invokestatic 36, 3) := by decide +kernel
theorem dX0_run_289 : decode cX0_run 289 = .ok (.iconst 5, 1) := by decide +kernel
theorem dX0_run_290 : decode cX0_run 290 = .ok (.ixor, 1) := by decide +kernel
theorem dX0_run_291 : decode cX0_run 291 = .ok (.ireturn, 1) := by decide +kernel
theorem dX0_run_292 : decode cX0_run 292 = .ok (.aload_n 0, 1) := by decide +kernel
theorem dX0_run_293 : decode cX0_run 293 = .ok (.iconst 0, 1) := by decide +kernel
theorem dX0_run_294 : decode cX0_run 294 = .ok (.iload 7, 2) := by decide +kernel
theorem dX0_run_296 : decode cX0_run 296 = .ok (.iload_n 3, 1) := by decide +kernel
theorem dX0_run_297 : decode cX0_run 297 = .ok (.iload 8, 2) := by decide +kernel
theorem dX0_run_299 : decode cX0_run 299 = .ok (.invokestatic 36, 3) := by decide +kernel
theorem dX0_run_302 : decode cX0_run 302 = .ok (.iconst 2, 1) := by decide +kernel
theorem dX0_run_303 : decode cX0_run 303 = .ok (.imul, 1) := by decide +kernel
theorem dX0_run_304 : decode cX0_run 304 = .ok (.ireturn, 1) := by decide +kernel
theorem dX0_run_305 : decode cX0_run 305 = .ok (.aload_n 0, 1) := by decide +kernel
theorem dX0_run_306 : decode cX0_run 306 = .ok (.iconst 1, 1) := by decide +kernel
theorem dX0_run_307 : decode cX0_run 307 = .ok (.iload 7, 2) := by decide +kernel
theorem dX0_run_309 : decode cX0_run 309 = .ok (.iload_n 3, 1) := by decide +kernel
theorem dX0_run_310 : decode cX0_run 310 = .ok (.aload_n 0, 1) := by decide +kernel
theorem dX0_run_311 : decode cX0_run 311 = .ok (.getfield 40, 3) := by decide +kernel
theorem dX0_run_314 : decode cX0_run 314 = .ok (.isub, 1) := by decide +kernel
theorem dX0_run_315 : decode cX0_run 315 = .ok (.iload 8, 2) := by decide +kernel
theorem dX0_run_317 : decode cX0_run 317 = .ok (.invokestatic 36, 3) := by decide +kernel
theorem dX0_run_320 : decode cX0_run 320 = .ok (.ireturn, 1) := by decide +kernel
theorem dX0_run_321 : decode cX0_run 321 = .ok (.iconst 0, 1) := by decide +kernel
theorem dX0_run_322 : decode cX0_run 322 = .ok (.ireturn, 1) := by decide +kernel
theorem dX0_ownerOf_0 : decode cX0_ownerOf 0 = .ok (.iload_n 1, 1) := by decide +kernel
theorem dX0_ownerOf_1 : decode cX0_ownerOf 1 = .ok (.istore_n 2, 1) := by decide +kernel
theorem dX0_ownerOf_2 : decode cX0_ownerOf 2 = .ok (.iconst 0, 1) := by decide +kernel
theorem dX0_ownerOf_3 : decode cX0_ownerOf 3 = .ok (.istore_n 3, 1) := by decide +kernel
theorem dX0_ownerOf_4 : decode cX0_ownerOf 4 = .ok (.iload_n 3, 1) := by decide +kernel
theorem dX0_ownerOf_5 : decode cX0_ownerOf 5 = .ok (.bipush 7, 2) := by decide +kernel
theorem dX0_ownerOf_7 : decode cX0_ownerOf 7 = .ok (.if_icmp .ge 48, 3) := by decide +kernel
theorem dX0_ownerOf_10 : decode cX0_ownerOf 10 = .ok (.iload_n 2, 1) := by decide +kernel
theorem dX0_ownerOf_11 : decode cX0_ownerOf 11 = .ok (.iconst 0, 1) := by decide +kernel
theorem dX0_ownerOf_12 : decode cX0_ownerOf 12 = .ok (.bipush 6, 2) := by decide +kernel
theorem dX0_ownerOf_14 : decode cX0_ownerOf 14 = .ok (.invokestatic 43, 3) := by decide +kernel
theorem dX0_ownerOf_17 : decode cX0_ownerOf 17 = .ok (.ifCond .eq 38, 3) := by decide +kernel
theorem dX0_ownerOf_20 : decode cX0_ownerOf 20 = .ok (.iload_n 0, 1) := by decide +kernel
theorem dX0_ownerOf_21 : decode cX0_ownerOf 21 = .ok (.iconst 0, 1) := by decide +kernel
theorem dX0_ownerOf_22 : decode cX0_ownerOf 22 = .ok (.iconst 2, 1) := by decide +kernel
theorem dX0_ownerOf_23 : decode cX0_ownerOf 23 = .ok (.invokestatic 43, 3) := by decide +kernel
theorem dX0_ownerOf_26 : decode cX0_ownerOf 26 = .ok (.ifCond .eq 29, 3) := by decide +kernel
theorem dX0_ownerOf_29 : decode cX0_ownerOf 29 = .ok (.getstatic 19, 3) := by decide +kernel
theorem dX0_ownerOf_32 : decode cX0_ownerOf 32 = .ok (.iload_n 2, 1) := by decide +kernel
theorem dX0_ownerOf_33 : decode cX0_ownerOf 33 = .ok (.iconst 3, 1) := by decide +kernel
theorem dX0_ownerOf_34 : decode cX0_ownerOf 34 = .ok (.imul, 1) := by decide +kernel
theorem dX0_ownerOf_35 : decode cX0_ownerOf 35 = .ok (.iload_n 0, 1) := by decide +kernel
theorem dX0_ownerOf_36 : decode cX0_ownerOf 36 = .ok (.iadd, 1) := by decide +kernel
theorem dX0_ownerOf_37 : decode cX0_ownerOf 37 = .ok (.iaload, 1) := by decide +kernel
theorem dX0_ownerOf_38 : decode cX0_ownerOf 38 = .ok (.ifCond .eq 5, 3) := by decide +kernel
theorem dX0_ownerOf_41 : decode cX0_ownerOf 41 = .ok (.iload_n 2, 1) := by decide +kernel
theorem dX0_ownerOf_42 : decode cX0_ownerOf 42 = .ok (.ireturn, 1) := by decide +kernel
theorem dX0_ownerOf_43 : decode cX0_ownerOf 43 = .ok (.getstatic 26, 3) := by decide +kernel
theorem dX0_ownerOf_46 : decode cX0_ownerOf 46 = .ok (.iload_n 2, 1) := by decide +kernel
theorem dX0_ownerOf_47 : decode cX0_ownerOf 47 = .ok (.iaload, 1) := by decide +kernel
theorem dX0_ownerOf_48 : decode cX0_ownerOf 48 = .ok (.istore_n 2, 1) := by decide +kernel
theorem dX0_ownerOf_49 : decode cX0_ownerOf 49 = .ok (.iinc 3 1, 3) := by decide +kernel
theorem dX0_ownerOf_52 : decode cX0_ownerOf 52 = .ok (.goto (-48), 3) := by decide +kernel
theorem dX0_ownerOf_55 : decode cX0_ownerOf 55 = .ok (.iconst (-1), 1) := by decide +kernel
theorem dX0_ownerOf_56 : decode cX0_ownerOf 56 = .ok (.ireturn, 1) := by decide +kernel
theorem dX0_begins_0 : decode cX0_begins 0 = .ok (.aload_n 0, 1) := by decide +kernel
theorem dX0_begins_1 : decode cX0_begins 1 = .ok (.getfield 47, 3) := by decide +kernel
theorem dX0_begins_4 : decode cX0_begins 4 = .ok (.bipush 20, 2) := by decide +kernel
theorem dX0_begins_6 : decode cX0_begins 6 = .ok (.if_icmp .ge 13, 3) := by decide +kernel
theorem dX0_begins_9 : decode cX0_begins 9 = .ok (.aload_n 0, 1) := by decide +kernel
theorem dX0_begins_10 : decode cX0_begins 10 = .ok (.getfield 9, 3) := by decide +kernel
theorem dX0_begins_13 : decode cX0_begins 13 = .ok (.aload_n 0, 1) := by decide +kernel
theorem dX0_begins_14 : decode cX0_begins 14 = .ok (.getfield 47, 3) := by decide +kernel
theorem dX0_begins_17 : decode cX0_begins 17 = .ok (.iload_n 1, 1) := by decide +kernel
theorem dX0_begins_18 : decode cX0_begins 18 = .ok (.iastore, 1) := by decide +kernel
theorem dX0_begins_19 : decode cX0_begins 19 = .ok (.aload_n 0, 1) := by decide +kernel
theorem dX0_begins_20 : decode cX0_begins 20 = .ok (.dup, 1) := by decide +kernel
theorem dX0_begins_21 : decode cX0_begins 21 = .ok (.getfield 47, 3) := by decide +kernel
theorem dX0_begins_24 : decode cX0_begins 24 = .ok (.iconst 1, 1) := by decide +kernel
theorem dX0_begins_25 : decode cX0_begins 25 = .ok (.iadd, 1) := by decide +kernel
theorem dX0_begins_26 : decode cX0_begins 26 = .ok (.putfield 47, 3) := by decide +kernel
theorem dX0_begins_29 : decode cX0_begins 29 = .ok (.return_, 1) := by decide +kernel
theorem dX1_init_0 : decode cX1_init 0 = .ok (.aload_n 0, 1) := by decide +kernel
theorem dX1_init_1 : decode cX1_init 1 = .ok (.invokespecial 3, 3) := by decide +kernel
theorem dX1_init_4 : decode cX1_init 4 = .ok (.aload_n 0, 1) := by decide +kernel
theorem dX1_init_5 : decode cX1_init 5 = .ok (.bipush 12, 2) := by decide +kernel
theorem dX1_init_7 : decode cX1_init 7 = .ok (.newarray .int, 2) := by decide +kernel
theorem dX1_init_9 : decode cX1_init 9 = .ok (.putfield 9, 3) := by decide +kernel
theorem dX1_init_12 : decode cX1_init 12 = .ok (.return_, 1) := by decide +kernel
theorem dX1_become_0 : decode cX1_become 0 = .ok (.aload_n 0, 1) := by decide +kernel
theorem dX1_become_1 : decode cX1_become 1 = .ok (.aload_n 1, 1) := by decide +kernel
theorem dX1_become_2 : decode cX1_become 2 = .ok (.getfield 15, 3) := by decide +kernel
theorem dX1_become_5 : decode cX1_become 5 = .ok (.putfield 15, 3) := by decide +kernel
theorem dX1_become_8 : decode cX1_become 8 = .ok (.aload_n 0, 1) := by decide +kernel
theorem dX1_become_9 : decode cX1_become 9 = .ok (.aload_n 1, 1) := by decide +kernel
theorem dX1_become_10 : decode cX1_become 10 = .ok (.getfield 19, 3) := by decide +kernel
theorem dX1_become_13 : decode cX1_become 13 = .ok (.putfield 19, 3) := by decide +kernel
theorem dX1_become_16 : decode cX1_become 16 = .ok (.aload_n 0, 1) := by decide +kernel
theorem dX1_become_17 : decode cX1_become 17 = .ok (.aload_n 1, 1) := by decide +kernel
theorem dX1_become_18 : decode cX1_become 18 = .ok (.getfield 22, 3) := by decide +kernel
theorem dX1_become_21 : decode cX1_become 21 = .ok (.putfield 22, 3) := by decide +kernel
theorem dX1_become_24 : decode cX1_become 24 = .ok (.aload_n 1, 1) := by decide +kernel
theorem dX1_become_25 : decode cX1_become 25 = .ok (.getfield 9, 3) := by decide +kernel
theorem dX1_become_28 : decode cX1_become 28 = .ok (.iconst 0, 1) := by decide +kernel
theorem dX1_become_29 : decode cX1_become 29 = .ok (.aload_n 0, 1) := by decide +kernel
theorem dX1_become_30 : decode cX1_become 30 = .ok (.getfield 9, 3) := by decide +kernel
theorem dX1_become_33 : decode cX1_become 33 = .ok (.iconst 0, 1) := by decide +kernel
theorem dX1_become_34 : decode cX1_become 34 = .ok (.bipush 12, 2) := by decide +kernel
theorem dX1_become_36 : decode cX1_become 36 = .ok (.invokestatic 25, 3) := by decide +kernel
theorem dX1_become_39 : decode cX1_become 39 = .ok (.return_, 1) := by decide +kernel
theorem dX1_becomeNew_0 : decode cX1_becomeNew 0 = .ok (.aload_n 0, 1) := by decide +kernel
theorem dX1_becomeNew_1 : decode cX1_becomeNew 1 = .ok (.iload_n 1, 1) := by decide +kernel
theorem dX1_becomeNew_2 : decode cX1_becomeNew 2 = .ok (.putfield 15, 3) := by decide +kernel
theorem dX1_becomeNew_5 : decode cX1_becomeNew 5 = .ok (.aload_n 0, 1) := by decide +kernel
theorem dX1_becomeNew_6 : decode cX1_becomeNew 6 = .ok (.iload_n 3, 1) := by decide +kernel
theorem dX1_becomeNew_7 : decode cX1_becomeNew 7 = .ok (.putfield 19, 3) := by decide +kernel
theorem dX1_becomeNew_10 : decode cX1_becomeNew 10 = .ok (.aload_n 0, 1) := by decide +kernel
theorem dX1_becomeNew_11 : decode cX1_becomeNew 11 = .ok (.iload_n 2, 1) := by decide +kernel
theorem dX1_becomeNew_12 : decode cX1_becomeNew 12 = .ok (.putfield 22, 3) := by decide +kernel
theorem dX1_becomeNew_15 : decode cX1_becomeNew 15 = .ok (.aload_n 0, 1) := by decide +kernel
theorem dX1_becomeNew_16 : decode cX1_becomeNew 16 = .ok (.invokevirtual 31, 3) := by decide +kernel
theorem dX1_becomeNew_19 : decode cX1_becomeNew 19 = .ok (.return_, 1) := by decide +kernel
theorem dX1_dry_0 : decode cX1_dry 0 = .ok (.iconst 0, 1) := by decide +kernel
theorem dX1_dry_1 : decode cX1_dry 1 = .ok (.istore_n 1, 1) := by decide +kernel
theorem dX1_dry_2 : decode cX1_dry 2 = .ok (.iload_n 1, 1) := by decide +kernel
theorem dX1_dry_3 : decode cX1_dry 3 = .ok (.bipush 12, 2) := by decide +kernel
theorem dX1_dry_5 : decode cX1_dry 5 = .ok (.if_icmp .ge 16, 3) := by decide +kernel
theorem dX1_dry_8 : decode cX1_dry 8 = .ok (.aload_n 0, 1) := by decide +kernel
theorem dX1_dry_9 : decode cX1_dry 9 = .ok (.getfield 9, 3) := by decide +kernel
theorem dX1_dry_12 : decode cX1_dry 12 = .ok (.iload_n 1, 1) := by decide +kernel
theorem dX1_dry_13 : decode cX1_dry 13 = .ok (.iconst 0, 1) := by decide +kernel
theorem dX1_dry_14 : decode cX1_dry 14 = .ok (.iastore, 1) := by decide +kernel
theorem dX1_dry_15 : decode cX1_dry 15 = .ok (.iinc 1 1, 3) := by decide +kernel
theorem dX1_dry_18 : decode cX1_dry 18 = .ok (.goto (-16), 3) := by decide +kernel
theorem dX1_dry_21 : decode cX1_dry 21 = .ok (.return_, 1) := by decide +kernel
theorem dX1_hasCell_0 : decode cX1_hasCell 0 = .ok (.iload_n 1, 1) := by decide +kernel
theorem dX1_hasCell_1 : decode cX1_hasCell 1 = .ok (.ifCond .lt 15, 3) := by decide +kernel
theorem dX1_hasCell_4 : decode cX1_hasCell 4 = .ok (.iload_n 1, 1) := by decide +kernel
theorem dX1_hasCell_5 : decode cX1_hasCell 5 = .ok (.aload_n 0, 1) := by decide +kernel
theorem dX1_hasCell_6 : decode cX1_hasCell 6 = .ok (.getfield 22, 3) := by decide +kernel
theorem dX1_hasCell_9 : decode cX1_hasCell 9 = .ok (.if_icmp .ge 7, 3) := by decide +kernel
theorem dX1_hasCell_12 : decode cX1_hasCell 12 = .ok (.iconst 1, 1) := by decide +kernel
theorem dX1_hasCell_13 : decode cX1_hasCell 13 = .ok (.goto 4, 3) := by decide +kernel
theorem dX1_hasCell_16 : decode cX1_hasCell 16 = .ok (.iconst 0, 1) := by decide +kernel
theorem dX1_hasCell_17 : decode cX1_hasCell 17 = .ok (.ireturn, 1) := by decide +kernel
theorem dX1_isOf_0 : decode cX1_isOf 0 = .ok (.aload_n 0, 1) := by decide +kernel
theorem dX1_isOf_1 : decode cX1_isOf 1 = .ok (.getfield 15, 3) := by decide +kernel
theorem dX1_isOf_4 : decode cX1_isOf 4 = .ok (.istore_n 2, 1) := by decide +kernel
theorem dX1_isOf_5 : decode cX1_isOf 5 = .ok (.iconst 0, 1) := by decide +kernel
theorem dX1_isOf_6 : decode cX1_isOf 6 = .ok (.istore_n 3, 1) := by decide +kernel
theorem dX1_isOf_7 : decode cX1_isOf 7 = .ok (.iload_n 3, 1) := by decide +kernel
theorem dX1_isOf_8 : decode cX1_isOf 8 = .ok (.bipush 7, 2) := by decide +kernel
theorem dX1_isOf_10 : decode cX1_isOf 10 = .ok (.if_icmp .ge 32, 3) := by decide +kernel
theorem dX1_isOf_13 : decode cX1_isOf 13 = .ok (.iload_n 2, 1) := by decide +kernel
theorem dX1_isOf_14 : decode cX1_isOf 14 = .ok (.ifCond .lt 28, 3) := by decide +kernel
theorem dX1_isOf_17 : decode cX1_isOf 17 = .ok (.iload_n 2, 1) := by decide +kernel
theorem dX1_isOf_18 : decode cX1_isOf 18 = .ok (.bipush 7, 2) := by decide +kernel
theorem dX1_isOf_20 : decode cX1_isOf 20 = .ok (.if_icmp .ge 22, 3) := by decide +kernel
theorem dX1_isOf_23 : decode cX1_isOf 23 = .ok (.iload_n 2, 1) := by decide +kernel
theorem dX1_isOf_24 : decode cX1_isOf 24 = .ok (.iload_n 1, 1) := by decide +kernel
theorem dX1_isOf_25 : decode cX1_isOf 25 = .ok (.if_icmp .ne 5, 3) := by decide +kernel
theorem dX1_isOf_28 : decode cX1_isOf 28 = .ok (.iconst 1, 1) := by decide +kernel
theorem dX1_isOf_29 : decode cX1_isOf 29 = .ok (.ireturn, 1) := by decide +kernel
theorem dX1_isOf_30 : decode cX1_isOf 30 = .ok (.getstatic 34, 3) := by decide +kernel
theorem dX1_isOf_33 : decode cX1_isOf 33 = .ok (.iload_n 2, 1) := by decide +kernel
theorem dX1_isOf_34 : decode cX1_isOf 34 = .ok (.iaload, 1) := by decide +kernel
theorem dX1_isOf_35 : decode cX1_isOf 35 = .ok (.istore_n 2, 1) := by decide +kernel
theorem dX1_isOf_36 : decode cX1_isOf 36 = .ok (.iinc 3 1, 3) := by decide +kernel
theorem dX1_isOf_39 : decode cX1_isOf 39 = .ok (.goto (-32), 3) := by decide +kernel
theorem dX1_isOf_42 : decode cX1_isOf 42 = .ok (.iconst 0, 1) := by decide +kernel
theorem dX1_isOf_43 : decode cX1_isOf 43 = .ok (.ireturn, 1) := by decide +kernel
theorem dX1_wetOfAll_0 : decode cX1_wetOfAll 0 = .ok (.iconst 0, 1) := by decide +kernel
theorem dX1_wetOfAll_1 : decode cX1_wetOfAll 1 = .ok (.istore_n 1, 1) := by decide +kernel
theorem dX1_wetOfAll_2 : decode cX1_wetOfAll 2 = .ok (.iconst 0, 1) := by decide +kernel
theorem dX1_wetOfAll_3 : decode cX1_wetOfAll 3 = .ok (.istore_n 2, 1) := by decide +kernel
theorem dX1_wetOfAll_4 : decode cX1_wetOfAll 4 = .ok (.iload_n 2, 1) := by decide +kernel
theorem dX1_wetOfAll_5 : decode cX1_wetOfAll 5 = .ok (.aload_n 0, 1) := by decide +kernel
theorem dX1_wetOfAll_6 : decode cX1_wetOfAll 6 = .ok (.getfield 22, 3) := by decide +kernel
theorem dX1_wetOfAll_9 : decode cX1_wetOfAll 9 = .ok (.if_icmp .ge 18, 3) := by decide +kernel
theorem dX1_wetOfAll_12 : decode cX1_wetOfAll 12 = .ok (.iload_n 1, 1) := by decide +kernel
theorem dX1_wetOfAll_13 : decode cX1_wetOfAll 13 = .ok (.aload_n 0, 1) := by decide +kernel
theorem dX1_wetOfAll_14 : decode cX1_wetOfAll 14 = .ok (.getfield 9, 3) := by decide +kernel
theorem dX1_wetOfAll_17 : decode cX1_wetOfAll 17 = .ok (.iload_n 2, 1) := by decide +kernel
theorem dX1_wetOfAll_18 : decode cX1_wetOfAll 18 = .ok (.iaload, 1) := by decide +kernel
theorem dX1_wetOfAll_19 : decode cX1_wetOfAll 19 = .ok (.iadd, 1) := by decide +kernel
theorem dX1_wetOfAll_20 : decode cX1_wetOfAll 20 = .ok (.istore_n 1, 1) := by decide +kernel
theorem dX1_wetOfAll_21 : decode cX1_wetOfAll 21 = .ok (.iinc 2 1, 3) := by decide +kernel
theorem dX1_wetOfAll_24 : decode cX1_wetOfAll 24 = .ok (.goto (-20), 3) := by decide +kernel
theorem dX1_wetOfAll_27 : decode cX1_wetOfAll 27 = .ok (.iload_n 1, 1) := by decide +kernel
theorem dX1_wetOfAll_28 : decode cX1_wetOfAll 28 = .ok (.ireturn, 1) := by decide +kernel
theorem dX1_soakOf_0 : decode cX1_soakOf 0 = .ok (.iconst 1, 1) := by decide +kernel
theorem dX1_soakOf_1 : decode cX1_soakOf 1 = .ok (.aload_n 0, 1) := by decide +kernel
theorem dX1_soakOf_2 : decode cX1_soakOf 2 = .ok (.getfield 19, 3) := by decide +kernel
theorem dX1_soakOf_5 : decode cX1_soakOf 5 = .ok (.iadd, 1) := by decide +kernel
theorem dX1_soakOf_6 : decode cX1_soakOf 6 = .ok (.iload_n 2, 1) := by decide +kernel
theorem dX1_soakOf_7 : decode cX1_soakOf 7 = .ok (.bipush 10, 2) := by decide +kernel
theorem dX1_soakOf_9 : decode cX1_soakOf 9 = .ok (.idiv, 1) := by decide +kernel
theorem dX1_soakOf_10 : decode cX1_soakOf 10 = .ok (.iadd, 1) := by decide +kernel
theorem dX1_soakOf_11 : decode cX1_soakOf 11 = .ok (.istore_n 3, 1) := by decide +kernel
theorem dX1_soakOf_12 : decode cX1_soakOf 12 = .ok (.aload_n 0, 1) := by decide +kernel
theorem dX1_soakOf_13 : decode cX1_soakOf 13 = .ok (.getfield 15, 3) := by decide +kernel
theorem dX1_soakOf_16 : decode cX1_soakOf 16 = .ok (.tableswitch 66 1 6 #[40, 44, 40, 62, 44, 62], 40) := by decide +kernel
theorem dX1_soakOf_56 : decode cX1_soakOf 56 = .ok (.iload_n 3, 1) := by decide +kernel
theorem dX1_soakOf_57 : decode cX1_soakOf 57 = .ok (.iconst 2, 1) := by decide +kernel
theorem dX1_soakOf_58 : decode cX1_soakOf 58 = .ok (.idiv, 1) := by decide +kernel
theorem dX1_soakOf_59 : decode cX1_soakOf 59 = .ok (.ireturn, 1) := by decide +kernel
theorem dX1_soakOf_60 : decode cX1_soakOf 60 = .ok (.iload_n 1, 1) := by decide +kernel
theorem dX1_soakOf_61 : decode cX1_soakOf 61 = .ok (.aload_n 0, 1) := by decide +kernel
theorem dX1_soakOf_62 : decode cX1_soakOf 62 = .ok (.getfield 22, 3) := by decide +kernel
theorem dX1_soakOf_65 : decode cX1_soakOf 65 = .ok (.iconst 2, 1) := by decide +kernel
theorem dX1_soakOf_66 : decode cX1_soakOf 66 = .ok (.idiv, 1) := by decide +kernel
theorem dX1_soakOf_67 : decode cX1_soakOf 67 = .ok (.if_icmp .ne 9, 3) := by decide +kernel
theorem dX1_soakOf_70 : decode cX1_soakOf 70 = .ok (.iload_n 3, 1) := by decide +kernel
theorem dX1_soakOf_71 : decode cX1_soakOf 71 = .ok (.iconst 2, 1) := by decide +kernel
theorem dX1_soakOf_72 : decode cX1_soakOf 72 = .ok (.imul, 1) := by decide +kernel
theorem dX1_soakOf_73 : decode cX1_soakOf 73 = .ok (.goto 4, 3) := by decide +kernel
theorem dX1_soakOf_76 : decode cX1_soakOf 76 = .ok (.iload_n 3, 1) := by decide +kernel
theorem dX1_soakOf_77 : decode cX1_soakOf 77 = .ok (.ireturn, 1) := by decide +kernel
theorem dX1_soakOf_78 : decode cX1_soakOf 78 = .ok (.iload_n 3, 1) := by decide +kernel
theorem dX1_soakOf_79 : decode cX1_soakOf 79 = .ok (.iconst 2, 1) := by decide +kernel
theorem dX1_soakOf_80 : decode cX1_soakOf 80 = .ok (.imul, 1) := by decide +kernel
theorem dX1_soakOf_81 : decode cX1_soakOf 81 = .ok (.ireturn, 1) := by decide +kernel
theorem dX1_soakOf_82 : decode cX1_soakOf 82 = .ok (.iload_n 3, 1) := by decide +kernel
theorem dX1_soakOf_83 : decode cX1_soakOf 83 = .ok (.ireturn, 1) := by decide +kernel
theorem dX1_creepInto_0 : decode cX1_creepInto 0 = .ok (.iload_n 1, 1) := by decide +kernel
theorem dX1_creepInto_1 : decode cX1_creepInto 1 = .ok (.iconst 1, 1) := by decide +kernel
theorem dX1_creepInto_2 : decode cX1_creepInto 2 = .ok (.if_icmp .lt 11, 3) := by decide +kernel
theorem dX1_creepInto_5 : decode cX1_creepInto 5 = .ok (.iload_n 1, 1) := by decide +kernel
theorem dX1_creepInto_6 : decode cX1_creepInto 6 = .ok (.aload_n 0, 1) := by decide +kernel
theorem dX1_creepInto_7 : decode cX1_creepInto 7 = .ok (.getfield 22, 3) := by decide +kernel
theorem dX1_creepInto_10 : decode cX1_creepInto 10 = .ok (.if_icmp .lt 5, 3) := by decide +kernel
theorem dX1_creepInto_13 : decode cX1_creepInto 13 = .ok (.iconst 0, 1) := by decide +kernel
theorem dX1_creepInto_14 : decode cX1_creepInto 14 = .ok (.ireturn, 1) := by decide +kernel
theorem dX1_creepInto_15 : decode cX1_creepInto 15 = .ok (.aload_n 0, 1) := by decide +kernel
theorem dX1_creepInto_16 : decode cX1_creepInto 16 = .ok (.getfield 9, 3) := by decide +kernel
theorem dX1_creepInto_19 : decode cX1_creepInto 19 = .ok (.iload_n 1, 1) := by decide +kernel
theorem dX1_creepInto_20 : decode cX1_creepInto 20 = .ok (.iconst 1, 1) := by decide +kernel
theorem dX1_creepInto_21 : decode cX1_creepInto 21 = .ok (.isub, 1) := by decide +kernel
theorem dX1_creepInto_22 : decode cX1_creepInto 22 = .ok (.iaload, 1) := by decide +kernel
theorem dX1_creepInto_23 : decode cX1_creepInto 23 = .ok (.aload_n 0, 1) := by decide +kernel
theorem dX1_creepInto_24 : decode cX1_creepInto 24 = .ok (.getfield 9, 3) := by decide +kernel
theorem dX1_creepInto_27 : decode cX1_creepInto 27 = .ok (.iload_n 1, 1) := by decide +kernel
theorem dX1_creepInto_28 : decode cX1_creepInto 28 = .ok (.iaload, 1) := by decide +kernel
theorem dX1_creepInto_29 : decode cX1_creepInto 29 = .ok (.isub, 1) := by decide +kernel
theorem dX1_creepInto_30 : decode cX1_creepInto 30 = .ok (.istore_n 2, 1) := by decide +kernel
theorem dX1_creepInto_31 : decode cX1_creepInto 31 = .ok (.iload_n 2, 1) := by decide +kernel
theorem dX1_creepInto_32 : decode cX1_creepInto 32 = .ok (.ifCond .gt 5, 3) := by decide +kernel
theorem dX1_creepInto_35 : decode cX1_creepInto 35 = .ok (.iconst 0, 1) := by decide +kernel
theorem dX1_creepInto_36 : decode cX1_creepInto 36 = .ok (.ireturn, 1) := by decide +kernel
theorem dX1_creepInto_37 : decode cX1_creepInto 37 = .ok (.aload_n 0, 1) := by decide +kernel
theorem dX1_creepInto_38 : decode cX1_creepInto 38 = .ok (.getfield 15, 3) := by decide +kernel
theorem dX1_creepInto_41 : decode cX1_creepInto 41 = .ok (.iconst 3, 1) := by decide +kernel
theorem dX1_creepInto_42 : decode cX1_creepInto 42 = .ok (.if_icmp .ne 9, 3) := by decide +kernel
theorem dX1_creepInto_45 : decode cX1_creepInto 45 = .ok (.iload_n 2, 1) := by decide +kernel
theorem dX1_creepInto_46 : decode cX1_creepInto 46 = .ok (.iconst 2, 1) := by decide +kernel
theorem dX1_creepInto_47 : decode cX1_creepInto 47 = .ok (.idiv, 1) := by decide +kernel
theorem dX1_creepInto_48 : decode cX1_creepInto 48 = .ok (.goto 6, 3) := by decide +kernel
theorem dX1_creepInto_51 : decode cX1_creepInto 51 = .ok (.iload_n 2, 1) := by decide +kernel
theorem dX1_creepInto_52 : decode cX1_creepInto 52 = .ok (.iconst 4, 1) := by decide +kernel
theorem dX1_creepInto_53 : decode cX1_creepInto 53 = .ok (.idiv, 1) := by decide +kernel
theorem dX1_creepInto_54 : decode cX1_creepInto 54 = .ok (.ireturn, 1) := by decide +kernel
theorem dX1_holdsSoWet_0 : decode cX1_holdsSoWet 0 = .ok (.bipush 60, 2) := by decide +kernel
theorem dX1_holdsSoWet_2 : decode cX1_holdsSoWet 2 = .ok (.istore_n 2, 1) := by decide +kernel
theorem dX1_holdsSoWet_3 : decode cX1_holdsSoWet 3 = .ok (.aload_n 0, 1) := by decide +kernel
theorem dX1_holdsSoWet_4 : decode cX1_holdsSoWet 4 = .ok (.getfield 15, 3) := by decide +kernel
theorem dX1_holdsSoWet_7 : decode cX1_holdsSoWet 7 = .ok (.iconst 5, 1) := by decide +kernel
theorem dX1_holdsSoWet_8 : decode cX1_holdsSoWet 8 = .ok (.if_icmp .ne 9, 3) := by decide +kernel
theorem dX1_holdsSoWet_11 : decode cX1_holdsSoWet 11 = .ok (.iinc 2 40, 3) := by decide +kernel
theorem dX1_holdsSoWet_14 : decode cX1_holdsSoWet 14 = .ok (.goto 19, 3) := by decide +kernel
theorem dX1_holdsSoWet_17 : decode cX1_holdsSoWet 17 = .ok (.aload_n 0, 1) := by decide +kernel
theorem dX1_holdsSoWet_18 : decode cX1_holdsSoWet 18 = .ok (.getfield 15, 3) := by decide +kernel
theorem dX1_holdsSoWet_21 : decode cX1_holdsSoWet 21 = .ok (.bipush 6, 2) := by decide +kernel
theorem dX1_holdsSoWet_23 : decode cX1_holdsSoWet 23 = .ok (.if_icmp .ne 10, 3) := by decide +kernel
theorem dX1_holdsSoWet_26 : decode cX1_holdsSoWet 26 = .ok (.iload_n 2, 1) := by decide +kernel
theorem dX1_holdsSoWet_27 : decode cX1_holdsSoWet 27 = .ok (.aload_n 0, 1) := by decide +kernel
theorem dX1_holdsSoWet_28 : decode cX1_holdsSoWet 28 = .ok (.getfield 19, 3) := by decide +kernel
theorem dX1_holdsSoWet_31 : decode cX1_holdsSoWet 31 = .ok (.iadd, 1) := by decide +kernel
theorem dX1_holdsSoWet_32 : decode cX1_holdsSoWet 32 = .ok (.istore_n 2, 1) := by decide +kernel
theorem dX1_holdsSoWet_33 : decode cX1_holdsSoWet 33 = .ok (.iload_n 2, 1) := by decide +kernel
theorem dX1_holdsSoWet_34 : decode cX1_holdsSoWet 34 = .ok (.iload_n 1, 1) := by decide +kernel
theorem dX1_holdsSoWet_35 : decode cX1_holdsSoWet 35 = .ok (.isub, 1) := by decide +kernel
theorem dX1_holdsSoWet_36 : decode cX1_holdsSoWet 36 = .ok (.ireturn, 1) := by decide +kernel
theorem dX1_holdsAt_0 : decode cX1_holdsAt 0 = .ok (.aload_n 0, 1) := by decide +kernel
theorem dX1_holdsAt_1 : decode cX1_holdsAt 1 = .ok (.iload_n 1, 1) := by decide +kernel
theorem dX1_holdsAt_2 : decode cX1_holdsAt 2 = .ok (.invokevirtual 37, 3) := by decide +kernel
theorem dX1_holdsAt_5 : decode cX1_holdsAt 5 = .ok (.ifCond .eq 16, 3) := by decide +kernel
theorem dX1_holdsAt_8 : decode cX1_holdsAt 8 = .ok (.aload_n 0, 1) := by decide +kernel
theorem dX1_holdsAt_9 : decode cX1_holdsAt 9 = .ok (.aload_n 0, 1) := by decide +kernel
theorem dX1_holdsAt_10 : decode cX1_holdsAt 10 = .ok (.getfield 9, 3) := by decide +kernel
theorem dX1_holdsAt_13 : decode cX1_holdsAt 13 = .ok (.iload_n 1, 1) := by decide +kernel
theorem dX1_holdsAt_14 : decode cX1_holdsAt 14 = .ok (.iaload, 1) := by decide +kernel
theorem dX1_holdsAt_15 : decode cX1_holdsAt 15 = .ok (.invokevirtual 41, 3) := by decide +kernel
theorem dX1_holdsAt_18 : decode cX1_holdsAt 18 = .ok (.goto 4, 3) := by decide +kernel
theorem dX1_holdsAt_21 : decode cX1_holdsAt 21 = .ok (.iconst 0, 1) := by decide +kernel
theorem dX1_holdsAt_22 : decode cX1_holdsAt 22 = .ok (.ireturn, 1) := by decide +kernel
theorem dX1_hangsOn_0 : decode cX1_hangsOn 0 = .ok (.iconst 0, 1) := by decide +kernel
theorem dX1_hangsOn_1 : decode cX1_hangsOn 1 = .ok (.istore_n 2, 1) := by decide +kernel
theorem dX1_hangsOn_2 : decode cX1_hangsOn 2 = .ok (.iconst 0, 1) := by decide +kernel
theorem dX1_hangsOn_3 : decode cX1_hangsOn 3 = .ok (.istore_n 3, 1) := by decide +kernel
theorem dX1_hangsOn_4 : decode cX1_hangsOn 4 = .ok (.iload_n 3, 1) := by decide +kernel
theorem dX1_hangsOn_5 : decode cX1_hangsOn 5 = .ok (.iload_n 1, 1) := by decide +kernel
theorem dX1_hangsOn_6 : decode cX1_hangsOn 6 = .ok (.if_icmp .ge 31, 3) := by decide +kernel
theorem dX1_hangsOn_9 : decode cX1_hangsOn 9 = .ok (.iload_n 3, 1) := by decide +kernel
theorem dX1_hangsOn_10 : decode cX1_hangsOn 10 = .ok (.aload_n 0, 1) := by decide +kernel
theorem dX1_hangsOn_11 : decode cX1_hangsOn 11 = .ok (.getfield 22, 3) := by decide +kernel
theorem dX1_hangsOn_14 : decode cX1_hangsOn 14 = .ok (.if_icmp .ge 23, 3) := by decide +kernel
theorem dX1_hangsOn_17 : decode cX1_hangsOn 17 = .ok (.iload_n 2, 1) := by decide +kernel
theorem dX1_hangsOn_18 : decode cX1_hangsOn 18 = .ok (.iconst 1, 1) := by decide +kernel
theorem dX1_hangsOn_19 : decode cX1_hangsOn 19 = .ok (.aload_n 0, 1) := by decide +kernel
theorem dX1_hangsOn_20 : decode cX1_hangsOn 20 = .ok (.getfield 9, 3) := by decide +kernel
theorem dX1_hangsOn_23 : decode cX1_hangsOn 23 = .ok (.iload_n 3, 1) := by decide +kernel
theorem dX1_hangsOn_24 : decode cX1_hangsOn 24 = .ok (.iaload, 1) := by decide +kernel
theorem dX1_hangsOn_25 : decode cX1_hangsOn 25 = .ok (.bipush 20, 2) := by decide +kernel
theorem dX1_hangsOn_27 : decode cX1_hangsOn 27 = .ok (.idiv, 1) := by decide +kernel
theorem dX1_hangsOn_28 : decode cX1_hangsOn 28 = .ok (.iadd, 1) := by decide +kernel
theorem dX1_hangsOn_29 : decode cX1_hangsOn 29 = .ok (.iadd, 1) := by decide +kernel
theorem dX1_hangsOn_30 : decode cX1_hangsOn 30 = .ok (.istore_n 2, 1) := by decide +kernel
theorem dX1_hangsOn_31 : decode cX1_hangsOn 31 = .ok (.iinc 3 1, 3) := by decide +kernel
theorem dX1_hangsOn_34 : decode cX1_hangsOn 34 = .ok (.goto (-30), 3) := by decide +kernel
theorem dX1_hangsOn_37 : decode cX1_hangsOn 37 = .ok (.iload_n 2, 1) := by decide +kernel
theorem dX1_hangsOn_38 : decode cX1_hangsOn 38 = .ok (.ireturn, 1) := by decide +kernel
theorem dX1_breakingCell_0 : decode cX1_breakingCell 0 = .ok (.iconst 0, 1) := by decide +kernel
theorem dX1_breakingCell_1 : decode cX1_breakingCell 1 = .ok (.istore_n 1, 1) := by decide +kernel
theorem dX1_breakingCell_2 : decode cX1_breakingCell 2 = .ok (.iconst 1, 1) := by decide +kernel
theorem dX1_breakingCell_3 : decode cX1_breakingCell 3 = .ok (.istore_n 2, 1) := by decide +kernel
theorem dX1_breakingCell_4 : decode cX1_breakingCell 4 = .ok (.iload_n 2, 1) := by decide +kernel
theorem dX1_breakingCell_5 : decode cX1_breakingCell 5 = .ok (.aload_n 0, 1) := by decide +kernel
theorem dX1_breakingCell_6 : decode cX1_breakingCell 6 = .ok (.getfield 22, 3) := by decide +kernel
theorem dX1_breakingCell_9 : decode cX1_breakingCell 9 = .ok (.if_icmp .ge 41, 3) := by decide +kernel
theorem dX1_breakingCell_12 : decode cX1_breakingCell 12 = .ok (.iload_n 1, 1) := by decide +kernel
theorem dX1_breakingCell_13 : decode cX1_breakingCell 13 = .ok (.iconst 1, 1) := by decide +kernel
theorem dX1_breakingCell_14 : decode cX1_breakingCell 14 = .ok (.aload_n 0, 1) := by decide +kernel
theorem dX1_breakingCell_15 : decode cX1_breakingCell 15 = .ok (.getfield 9, 3) := by decide +kernel
theorem dX1_breakingCell_18 : decode cX1_breakingCell 18 = .ok (.iload_n 2, 1) := by decide +kernel
theorem dX1_breakingCell_19 : decode cX1_breakingCell 19 = .ok (.iconst 1, 1) := by decide +kernel
theorem dX1_breakingCell_20 : decode cX1_breakingCell 20 = .ok (.isub, 1) := by decide +kernel
theorem dX1_breakingCell_21 : decode cX1_breakingCell 21 = .ok (.iaload, 1) := by decide +kernel
theorem dX1_breakingCell_22 : decode cX1_breakingCell 22 = .ok (.bipush 20, 2) := by decide +kernel
theorem dX1_breakingCell_24 : decode cX1_breakingCell 24 = .ok (.idiv, 1) := by decide +kernel
theorem dX1_breakingCell_25 : decode cX1_breakingCell 25 = .ok (.iadd, 1) := by decide +kernel
theorem dX1_breakingCell_26 : decode cX1_breakingCell 26 = .ok (.iadd, 1) := by decide +kernel
theorem dX1_breakingCell_27 : decode cX1_breakingCell 27 = .ok (.istore_n 1, 1) := by decide +kernel
theorem dX1_breakingCell_28 : decode cX1_breakingCell 28 = .ok (.iload_n 1, 1) := by decide +kernel
theorem dX1_breakingCell_29 : decode cX1_breakingCell 29 = .ok (.aload_n 0, 1) := by decide +kernel
theorem dX1_breakingCell_30 : decode cX1_breakingCell 30 = .ok (.aload_n 0, 1) := by decide +kernel
theorem dX1_breakingCell_31 : decode cX1_breakingCell 31 = .ok (.getfield 9, 3) := by decide +kernel
theorem dX1_breakingCell_34 : decode cX1_breakingCell 34 = .ok (.iload_n 2, 1) := by decide +kernel
theorem dX1_breakingCell_35 : decode cX1_breakingCell 35 = .ok (.iaload, 1) := by decide +kernel
theorem dX1_breakingCell_36 : decode cX1_breakingCell 36 = .ok (.invokevirtual 41, 3) := by decide +kernel
theorem dX1_breakingCell_39 : decode cX1_breakingCell 39 = .ok (.if_icmp .le 5, 3) := by decide +kernel
theorem dX1_breakingCell_42 : decode cX1_breakingCell 42 = .ok (.iload_n 2, 1) := by decide +kernel
theorem dX1_breakingCell_43 : decode cX1_breakingCell 43 = .ok (.ireturn, 1) := by decide +kernel
theorem dX1_breakingCell_44 : decode cX1_breakingCell 44 = .ok (.iinc 2 1, 3) := by decide +kernel
theorem dX1_breakingCell_47 : decode cX1_breakingCell 47 = .ok (.goto (-43), 3) := by decide +kernel
theorem dX1_breakingCell_50 : decode cX1_breakingCell 50 = .ok (.iconst (-1), 1) := by decide +kernel
theorem dX1_breakingCell_51 : decode cX1_breakingCell 51 = .ok (.ireturn, 1) := by decide +kernel
theorem dX1_loseBelow_0 : decode cX1_loseBelow 0 = .ok (.aload_n 0, 1) := by decide +kernel
theorem dX1_loseBelow_1 : decode cX1_loseBelow 1 = .ok (.iload_n 1, 1) := by decide +kernel
theorem dX1_loseBelow_2 : decode cX1_loseBelow 2 = .ok (.invokevirtual 37, 3) := by decide +kernel
theorem dX1_loseBelow_5 : decode cX1_loseBelow 5 = .ok (.ifCond .ne 4, 3) := by decide +kernel
theorem dX1_loseBelow_8 : decode cX1_loseBelow 8 = .ok (.return_, 1) := by decide +kernel
theorem dX1_loseBelow_9 : decode cX1_loseBelow 9 = .ok (.aload_n 0, 1) := by decide +kernel
theorem dX1_loseBelow_10 : decode cX1_loseBelow 10 = .ok (.dup, 1) := by decide +kernel
theorem dX1_loseBelow_11 : decode cX1_loseBelow 11 = .ok (.getfield 22, 3) := by decide +kernel
theorem dX1_loseBelow_14 : decode cX1_loseBelow 14 = .ok (.iload_n 1, 1) := by decide +kernel
theorem dX1_loseBelow_15 : decode cX1_loseBelow 15 = .ok (.isub, 1) := by decide +kernel
theorem dX1_loseBelow_16 : decode cX1_loseBelow 16 = .ok (.putfield 22, 3) := by decide +kernel
theorem dX1_loseBelow_19 : decode cX1_loseBelow 19 = .ok (.aload_n 0, 1) := by decide +kernel
theorem dX1_loseBelow_20 : decode cX1_loseBelow 20 = .ok (.getfield 9, 3) := by decide +kernel
theorem dX1_loseBelow_23 : decode cX1_loseBelow 23 = .ok (.iload_n 1, 1) := by decide +kernel
theorem dX1_loseBelow_24 : decode cX1_loseBelow 24 = .ok (.aload_n 0, 1) := by decide +kernel
theorem dX1_loseBelow_25 : decode cX1_loseBelow 25 = .ok (.getfield 9, 3) := by decide +kernel
theorem dX1_loseBelow_28 : decode cX1_loseBelow 28 = .ok (.iconst 0, 1) := by decide +kernel
theorem dX1_loseBelow_29 : decode cX1_loseBelow 29 = .ok (.aload_n 0, 1) := by decide +kernel
theorem dX1_loseBelow_30 : decode cX1_loseBelow 30 = .ok (.getfield 22, 3) := by decide +kernel
theorem dX1_loseBelow_33 : decode cX1_loseBelow 33 = .ok (.invokestatic 25, 3) := by decide +kernel
theorem dX1_loseBelow_36 : decode cX1_loseBelow 36 = .ok (.return_, 1) := by decide +kernel
theorem dX1_turnAbout_0 : decode cX1_turnAbout 0 = .ok (.iconst 0, 1) := by decide +kernel
theorem dX1_turnAbout_1 : decode cX1_turnAbout 1 = .ok (.istore_n 1, 1) := by decide +kernel
theorem dX1_turnAbout_2 : decode cX1_turnAbout 2 = .ok (.iload_n 1, 1) := by decide +kernel
theorem dX1_turnAbout_3 : decode cX1_turnAbout 3 = .ok (.aload_n 0, 1) := by decide +kernel
theorem dX1_turnAbout_4 : decode cX1_turnAbout 4 = .ok (.getfield 22, 3) := by decide +kernel
theorem dX1_turnAbout_7 : decode cX1_turnAbout 7 = .ok (.iconst 2, 1) := by decide +kernel
theorem dX1_turnAbout_8 : decode cX1_turnAbout 8 = .ok (.idiv, 1) := by decide +kernel
theorem dX1_turnAbout_9 : decode cX1_turnAbout 9 = .ok (.if_icmp .ge 44, 3) := by decide +kernel
theorem dX1_turnAbout_12 : decode cX1_turnAbout 12 = .ok (.aload_n 0, 1) := by decide +kernel
theorem dX1_turnAbout_13 : decode cX1_turnAbout 13 = .ok (.getfield 22, 3) := by decide +kernel
theorem dX1_turnAbout_16 : decode cX1_turnAbout 16 = .ok (.iconst 1, 1) := by decide +kernel
theorem dX1_turnAbout_17 : decode cX1_turnAbout 17 = .ok (.isub, 1) := by decide +kernel
theorem dX1_turnAbout_18 : decode cX1_turnAbout 18 = .ok (.iload_n 1, 1) := by decide +kernel
theorem dX1_turnAbout_19 : decode cX1_turnAbout 19 = .ok (.isub, 1) := by decide +kernel
theorem dX1_turnAbout_20 : decode cX1_turnAbout 20 = .ok (.istore_n 2, 1) := by decide +kernel
theorem dX1_turnAbout_21 : decode cX1_turnAbout 21 = .ok (.aload_n 0, 1) := by decide +kernel
theorem dX1_turnAbout_22 : decode cX1_turnAbout 22 = .ok (.getfield 9, 3) := by decide +kernel
theorem dX1_turnAbout_25 : decode cX1_turnAbout 25 = .ok (.iload_n 1, 1) := by decide +kernel
theorem dX1_turnAbout_26 : decode cX1_turnAbout 26 = .ok (.iaload, 1) := by decide +kernel
theorem dX1_turnAbout_27 : decode cX1_turnAbout 27 = .ok (.istore_n 3, 1) := by decide +kernel
theorem dX1_turnAbout_28 : decode cX1_turnAbout 28 = .ok (.aload_n 0, 1) := by decide +kernel
theorem dX1_turnAbout_29 : decode cX1_turnAbout 29 = .ok (.getfield 9, 3) := by decide +kernel
theorem dX1_turnAbout_32 : decode cX1_turnAbout 32 = .ok (.iload_n 1, 1) := by decide +kernel
theorem dX1_turnAbout_33 : decode cX1_turnAbout 33 = .ok (.aload_n 0, 1) := by decide +kernel
theorem dX1_turnAbout_34 : decode cX1_turnAbout 34 = .ok (.getfield 9, 3) := by decide +kernel
theorem dX1_turnAbout_37 : decode cX1_turnAbout 37 = .ok (.iload_n 2, 1) := by decide +kernel
theorem dX1_turnAbout_38 : decode cX1_turnAbout 38 = .ok (.iaload, 1) := by decide +kernel
theorem dX1_turnAbout_39 : decode cX1_turnAbout 39 = .ok (.iastore, 1) := by decide +kernel
theorem dX1_turnAbout_40 : decode cX1_turnAbout 40 = .ok (.aload_n 0, 1) := by decide +kernel
theorem dX1_turnAbout_41 : decode cX1_turnAbout 41 = .ok (.getfield 9, 3) := by decide +kernel
theorem dX1_turnAbout_44 : decode cX1_turnAbout 44 = .ok (.iload_n 2, 1) := by decide +kernel
theorem dX1_turnAbout_45 : decode cX1_turnAbout 45 = .ok (.iload_n 3, 1) := by decide +kernel
theorem dX1_turnAbout_46 : decode cX1_turnAbout 46 = .ok (.iastore, 1) := by decide +kernel
theorem dX1_turnAbout_47 : decode cX1_turnAbout 47 = .ok (.iinc 1 1, 3) := by decide +kernel
theorem dX1_turnAbout_50 : decode cX1_turnAbout 50 = .ok (.goto (-48), 3) := by decide +kernel
theorem dX1_turnAbout_53 : decode cX1_turnAbout 53 = .ok (.return_, 1) := by decide +kernel
theorem dX2_init_0 : decode cX2_init 0 = .ok (.aload_n 0, 1) := by decide +kernel
theorem dX2_init_1 : decode cX2_init 1 = .ok (.invokespecial 3, 3) := by decide +kernel
theorem dX2_init_4 : decode cX2_init 4 = .ok (.aload_n 0, 1) := by decide +kernel
theorem dX2_init_5 : decode cX2_init 5 = .ok (.new 9, 3) := by decide +kernel
theorem dX2_init_8 : decode cX2_init 8 = .ok (.dup, 1) := by decide +kernel
theorem dX2_init_9 : decode cX2_init 9 = .ok (.invokespecial 11, 3) := by decide +kernel
theorem dX2_init_12 : decode cX2_init 12 = .ok (.putfield 12, 3) := by decide +kernel
theorem dX2_init_15 : decode cX2_init 15 = .ok (.return_, 1) := by decide +kernel
theorem dX2_begin_0 : decode cX2_begin 0 = .ok (.aload_n 0, 1) := by decide +kernel
theorem dX2_begin_1 : decode cX2_begin 1 = .ok (.getfield 12, 3) := by decide +kernel
theorem dX2_begin_4 : decode cX2_begin 4 = .ok (.aload_n 1, 1) := by decide +kernel
theorem dX2_begin_5 : decode cX2_begin 5 = .ok (.invokevirtual 18, 3) := by decide +kernel
theorem dX2_begin_8 : decode cX2_begin 8 = .ok (.aload_n 0, 1) := by decide +kernel
theorem dX2_begin_9 : decode cX2_begin 9 = .ok (.iload_n 2, 1) := by decide +kernel
theorem dX2_begin_10 : decode cX2_begin 10 = .ok (.putfield 22, 3) := by decide +kernel
theorem dX2_begin_13 : decode cX2_begin 13 = .ok (.aload_n 0, 1) := by decide +kernel
theorem dX2_begin_14 : decode cX2_begin 14 = .ok (.iconst 0, 1) := by decide +kernel
theorem dX2_begin_15 : decode cX2_begin 15 = .ok (.putfield 26, 3) := by decide +kernel
theorem dX2_begin_18 : decode cX2_begin 18 = .ok (.aload_n 0, 1) := by decide +kernel
theorem dX2_begin_19 : decode cX2_begin 19 = .ok (.iconst 0, 1) := by decide +kernel
theorem dX2_begin_20 : decode cX2_begin 20 = .ok (.putfield 29, 3) := by decide +kernel
theorem dX2_begin_23 : decode cX2_begin 23 = .ok (.aload_n 0, 1) := by decide +kernel
theorem dX2_begin_24 : decode cX2_begin 24 = .ok (.iconst (-1), 1) := by decide +kernel
theorem dX2_begin_25 : decode cX2_begin 25 = .ok (.putfield 32, 3) := by decide +kernel
theorem dX2_begin_28 : decode cX2_begin 28 = .ok (.aload_n 0, 1) := by decide +kernel
theorem dX2_begin_29 : decode cX2_begin 29 = .ok (.iconst 0, 1) := by decide +kernel
theorem dX2_begin_30 : decode cX2_begin 30 = .ok (.putfield 35, 3) := by decide +kernel
theorem dX2_begin_33 : decode cX2_begin 33 = .ok (.aload_n 0, 1) := by decide +kernel
theorem dX2_begin_34 : decode cX2_begin 34 = .ok (.iconst 0, 1) := by decide +kernel
theorem dX2_begin_35 : decode cX2_begin 35 = .ok (.putfield 38, 3) := by decide +kernel
theorem dX2_begin_38 : decode cX2_begin 38 = .ok (.return_, 1) := by decide +kernel
theorem dX2_beginDry_0 : decode cX2_beginDry 0 = .ok (.aload_n 0, 1) := by decide +kernel
theorem dX2_beginDry_1 : decode cX2_beginDry 1 = .ok (.aload_n 1, 1) := by decide +kernel
theorem dX2_beginDry_2 : decode cX2_beginDry 2 = .ok (.iload_n 2, 1) := by decide +kernel
theorem dX2_beginDry_3 : decode cX2_beginDry 3 = .ok (.invokevirtual 41, 3) := by decide +kernel
theorem dX2_beginDry_6 : decode cX2_beginDry 6 = .ok (.aload_n 0, 1) := by decide +kernel
theorem dX2_beginDry_7 : decode cX2_beginDry 7 = .ok (.getfield 12, 3) := by decide +kernel
theorem dX2_beginDry_10 : decode cX2_beginDry 10 = .ok (.invokevirtual 45, 3) := by decide +kernel
theorem dX2_beginDry_13 : decode cX2_beginDry 13 = .ok (.return_, 1) := by decide +kernel
theorem dX2_become_0 : decode cX2_become 0 = .ok (.aload_n 0, 1) := by decide +kernel
theorem dX2_become_1 : decode cX2_become 1 = .ok (.getfield 12, 3) := by decide +kernel
theorem dX2_become_4 : decode cX2_become 4 = .ok (.aload_n 1, 1) := by decide +kernel
theorem dX2_become_5 : decode cX2_become 5 = .ok (.getfield 12, 3) := by decide +kernel
theorem dX2_become_8 : decode cX2_become 8 = .ok (.invokevirtual 18, 3) := by decide +kernel
theorem dX2_become_11 : decode cX2_become 11 = .ok (.aload_n 0, 1) := by decide +kernel
theorem dX2_become_12 : decode cX2_become 12 = .ok (.aload_n 1, 1) := by decide +kernel
theorem dX2_become_13 : decode cX2_become 13 = .ok (.getfield 22, 3) := by decide +kernel
theorem dX2_become_16 : decode cX2_become 16 = .ok (.putfield 22, 3) := by decide +kernel
theorem dX2_become_19 : decode cX2_become 19 = .ok (.aload_n 0, 1) := by decide +kernel
theorem dX2_become_20 : decode cX2_become 20 = .ok (.aload_n 1, 1) := by decide +kernel
theorem dX2_become_21 : decode cX2_become 21 = .ok (.getfield 26, 3) := by decide +kernel
theorem dX2_become_24 : decode cX2_become 24 = .ok (.putfield 26, 3) := by decide +kernel
theorem dX2_become_27 : decode cX2_become 27 = .ok (.aload_n 0, 1) := by decide +kernel
theorem dX2_become_28 : decode cX2_become 28 = .ok (.aload_n 1, 1) := by decide +kernel
theorem dX2_become_29 : decode cX2_become 29 = .ok (.getfield 29, 3) := by decide +kernel
theorem dX2_become_32 : decode cX2_become 32 = .ok (.putfield 29, 3) := by decide +kernel
theorem dX2_become_35 : decode cX2_become 35 = .ok (.aload_n 0, 1) := by decide +kernel
theorem dX2_become_36 : decode cX2_become 36 = .ok (.aload_n 1, 1) := by decide +kernel
theorem dX2_become_37 : decode cX2_become 37 = .ok (.getfield 32, 3) := by decide +kernel
theorem dX2_become_40 : decode cX2_become 40 = .ok (.putfield 32, 3) := by decide +kernel
theorem dX2_become_43 : decode cX2_become 43 = .ok (.aload_n 0, 1) := by decide +kernel
theorem dX2_become_44 : decode cX2_become 44 = .ok (.aload_n 1, 1) := by decide +kernel
theorem dX2_become_45 : decode cX2_become 45 = .ok (.getfield 35, 3) := by decide +kernel
theorem dX2_become_48 : decode cX2_become 48 = .ok (.putfield 35, 3) := by decide +kernel
theorem dX2_become_51 : decode cX2_become 51 = .ok (.aload_n 0, 1) := by decide +kernel
theorem dX2_become_52 : decode cX2_become 52 = .ok (.aload_n 1, 1) := by decide +kernel
theorem dX2_become_53 : decode cX2_become 53 = .ok (.getfield 38, 3) := by decide +kernel
theorem dX2_become_56 : decode cX2_become 56 = .ok (.putfield 38, 3) := by decide +kernel
theorem dX2_become_59 : decode cX2_become 59 = .ok (.return_, 1) := by decide +kernel
theorem dX2_isWhole_0 : decode cX2_isWhole 0 = .ok (.aload_n 0, 1) := by decide +kernel
theorem dX2_isWhole_1 : decode cX2_isWhole 1 = .ok (.getfield 35, 3) := by decide +kernel
theorem dX2_isWhole_4 : decode cX2_isWhole 4 = .ok (.ifCond .ne 7, 3) := by decide +kernel
theorem dX2_isWhole_7 : decode cX2_isWhole 7 = .ok (.iconst 1, 1) := by decide +kernel
theorem dX2_isWhole_8 : decode cX2_isWhole 8 = .ok (.goto 4, 3) := by decide +kernel
theorem dX2_isWhole_11 : decode cX2_isWhole 11 = .ok (.iconst 0, 1) := by decide +kernel
theorem dX2_isWhole_12 : decode cX2_isWhole 12 = .ok (.ireturn, 1) := by decide +kernel
theorem dX2_enter_0 : decode cX2_enter 0 = .ok (.aload_n 0, 1) := by decide +kernel
theorem dX2_enter_1 : decode cX2_enter 1 = .ok (.iload_n 1, 1) := by decide +kernel
theorem dX2_enter_2 : decode cX2_enter 2 = .ok (.aload_n 0, 1) := by decide +kernel
theorem dX2_enter_3 : decode cX2_enter 3 = .ok (.getfield 12, 3) := by decide +kernel
theorem dX2_enter_6 : decode cX2_enter 6 = .ok (.getfield 48, 3) := by decide +kernel
theorem dX2_enter_9 : decode cX2_enter 9 = .ok (.invokestatic 51, 3) := by decide +kernel
theorem dX2_enter_12 : decode cX2_enter 12 = .ok (.putfield 26, 3) := by decide +kernel
theorem dX2_enter_15 : decode cX2_enter 15 = .ok (.return_, 1) := by decide +kernel
theorem dX2_stay_0 : decode cX2_stay 0 = .ok (.aload_n 0, 1) := by decide +kernel
theorem dX2_stay_1 : decode cX2_stay 1 = .ok (.iload_n 1, 1) := by decide +kernel
theorem dX2_stay_2 : decode cX2_stay 2 = .ok (.invokevirtual 57, 3) := by decide +kernel
theorem dX2_stay_5 : decode cX2_stay 5 = .ok (.aload_n 0, 1) := by decide +kernel
theorem dX2_stay_6 : decode cX2_stay 6 = .ok (.getfield 29, 3) := by decide +kernel
theorem dX2_stay_9 : decode cX2_stay 9 = .ok (.iload_n 2, 1) := by decide +kernel
theorem dX2_stay_10 : decode cX2_stay 10 = .ok (.iadd, 1) := by decide +kernel
theorem dX2_stay_11 : decode cX2_stay 11 = .ok (.istore_n 3, 1) := by decide +kernel
theorem dX2_stay_12 : decode cX2_stay 12 = .ok (.iconst 1, 1) := by decide +kernel
theorem dX2_stay_13 : decode cX2_stay 13 = .ok (.istore 4, 2) := by decide +kernel
theorem dX2_stay_15 : decode cX2_stay 15 = .ok (.iconst 0, 1) := by decide +kernel
theorem dX2_stay_16 : decode cX2_stay 16 = .ok (.istore 5, 2) := by decide +kernel
theorem dX2_stay_18 : decode cX2_stay 18 = .ok (.iload 5, 2) := by decide +kernel
theorem dX2_stay_20 : decode cX2_stay 20 = .ok (.iload_n 2, 1) := by decide +kernel
theorem dX2_stay_21 : decode cX2_stay 21 = .ok (.if_icmp .ge 20, 3) := by decide +kernel
theorem dX2_stay_24 : decode cX2_stay 24 = .ok (.iload 4, 2) := by decide +kernel
theorem dX2_stay_26 : decode cX2_stay 26 = .ok (.ifCond .eq 15, 3) := by decide +kernel
theorem dX2_stay_29 : decode cX2_stay 29 = .ok (.aload_n 0, 1) := by decide +kernel
theorem dX2_stay_30 : decode cX2_stay 30 = .ok (.invokevirtual 61, 3) := by decide +kernel
theorem dX2_stay_33 : decode cX2_stay 33 = .ok (.istore 4, 2) := by decide +kernel
theorem dX2_stay_35 : decode cX2_stay 35 = .ok (.iinc 5 1, 3) := by decide +kernel
theorem dX2_stay_38 : decode cX2_stay 38 = .ok (.goto (-20), 3) := by decide +kernel
theorem dX2_stay_41 : decode cX2_stay 41 = .ok (.aload_n 0, 1) := by decide +kernel
theorem dX2_stay_42 : decode cX2_stay 42 = .ok (.iload_n 3, 1) := by decide +kernel
theorem dX2_stay_43 : decode cX2_stay 43 = .ok (.putfield 29, 3) := by decide +kernel
theorem dX2_stay_46 : decode cX2_stay 46 = .ok (.return_, 1) := by decide +kernel
theorem dX2_second_0 : decode cX2_second 0 = .ok (.iconst 0, 1) := by decide +kernel
theorem dX2_second_1 : decode cX2_second 1 = .ok (.istore_n 1, 1) := by decide +kernel
theorem dX2_second_2 : decode cX2_second 2 = .ok (.aload_n 0, 1) := by decide +kernel
theorem dX2_second_3 : decode cX2_second 3 = .ok (.getfield 12, 3) := by decide +kernel
theorem dX2_second_6 : decode cX2_second 6 = .ok (.getfield 48, 3) := by decide +kernel
theorem dX2_second_9 : decode cX2_second 9 = .ok (.iconst 1, 1) := by decide +kernel
theorem dX2_second_10 : decode cX2_second 10 = .ok (.isub, 1) := by decide +kernel
theorem dX2_second_11 : decode cX2_second 11 = .ok (.istore_n 2, 1) := by decide +kernel
theorem dX2_second_12 : decode cX2_second 12 = .ok (.iload_n 2, 1) := by decide +kernel
theorem dX2_second_13 : decode cX2_second 13 = .ok (.ifCond .lt 112, 3) := by decide +kernel
theorem dX2_second_16 : decode cX2_second 16 = .ok (.aload_n 0, 1) := by decide +kernel
theorem dX2_second_17 : decode cX2_second 17 = .ok (.getfield 12, 3) := by decide +kernel
theorem dX2_second_20 : decode cX2_second 20 = .ok (.getfield 65, 3) := by decide +kernel
theorem dX2_second_23 : decode cX2_second 23 = .ok (.iload_n 2, 1) := by decide +kernel
theorem dX2_second_24 : decode cX2_second 24 = .ok (.iaload, 1) := by decide +kernel
theorem dX2_second_25 : decode cX2_second 25 = .ok (.istore_n 3, 1) := by decide +kernel
theorem dX2_second_26 : decode cX2_second 26 = .ok (.iload_n 2, 1) := by decide +kernel
theorem dX2_second_27 : decode cX2_second 27 = .ok (.aload_n 0, 1) := by decide +kernel
theorem dX2_second_28 : decode cX2_second 28 = .ok (.getfield 26, 3) := by decide +kernel
theorem dX2_second_31 : decode cX2_second 31 = .ok (.if_icmp .ge 7, 3) := by decide +kernel
theorem dX2_second_34 : decode cX2_second 34 = .ok (.iconst 1, 1) := by decide +kernel
theorem dX2_second_35 : decode cX2_second 35 = .ok (.goto 4, 3) := by decide +kernel
theorem dX2_second_38 : decode cX2_second 38 = .ok (.iconst 0, 1) := by decide +kernel
theorem dX2_second_39 : decode cX2_second 39 = .ok (.istore 4, 2) := by decide +kernel
theorem dX2_second_41 : decode cX2_second 41 = .ok (.iload 4, 2) := by decide +kernel
theorem dX2_second_43 : decode cX2_second 43 = .ok (.ifCond .eq 18, 3) := by decide +kernel
theorem dX2_second_46 : decode cX2_second 46 = .ok (.aload_n 0, 1) := by decide +kernel
theorem dX2_second_47 : decode cX2_second 47 = .ok (.getfield 12, 3) := by decide +kernel
theorem dX2_second_50 : decode cX2_second 50 = .ok (.iload_n 2, 1) := by decide +kernel
theorem dX2_second_51 : decode cX2_second 51 = .ok (.aload_n 0, 1) := by decide +kernel
theorem dX2_second_52 : decode cX2_second 52 = .ok (.getfield 22, 3) := by decide +kernel
theorem dX2_second_55 : decode cX2_second 55 = .ok (.invokevirtual 69, 3) := by decide +kernel
theorem dX2_second_58 : decode cX2_second 58 = .ok (.goto 11, 3) := by decide +kernel
theorem dX2_second_61 : decode cX2_second 61 = .ok (.aload_n 0, 1) := by decide +kernel
theorem dX2_second_62 : decode cX2_second 62 = .ok (.getfield 12, 3) := by decide +kernel
theorem dX2_second_65 : decode cX2_second 65 = .ok (.iload_n 2, 1) := by decide +kernel
theorem dX2_second_66 : decode cX2_second 66 = .ok (.invokevirtual 72, 3) := by decide +kernel
theorem dX2_second_69 : decode cX2_second 69 = .ok (.istore 5, 2) := by decide +kernel
theorem dX2_second_71 : decode cX2_second 71 = .ok (.bipush 99, 2) := by decide +kernel
theorem dX2_second_73 : decode cX2_second 73 = .ok (.iload_n 3, 1) := by decide +kernel
theorem dX2_second_74 : decode cX2_second 74 = .ok (.iload 5, 2) := by decide +kernel
theorem dX2_second_76 : decode cX2_second 76 = .ok (.iadd, 1) := by decide +kernel
theorem dX2_second_77 : decode cX2_second 77 = .ok (.invokestatic 51, 3) := by decide +kernel
theorem dX2_second_80 : decode cX2_second 80 = .ok (.istore 6, 2) := by decide +kernel
theorem dX2_second_82 : decode cX2_second 82 = .ok (.iload 4, 2) := by decide +kernel
theorem dX2_second_84 : decode cX2_second 84 = .ok (.ifCond .eq 16, 3) := by decide +kernel
theorem dX2_second_87 : decode cX2_second 87 = .ok (.aload_n 0, 1) := by decide +kernel
theorem dX2_second_88 : decode cX2_second 88 = .ok (.dup, 1) := by decide +kernel
theorem dX2_second_89 : decode cX2_second 89 = .ok (.getfield 38, 3) := by decide +kernel
theorem dX2_second_92 : decode cX2_second 92 = .ok (.iload 6, 2) := by decide +kernel
theorem dX2_second_94 : decode cX2_second 94 = .ok (.iload_n 3, 1) := by decide +kernel
theorem dX2_second_95 : decode cX2_second 95 = .ok (.isub, 1) := by decide +kernel
theorem dX2_second_96 : decode cX2_second 96 = .ok (.iadd, 1) := by decide +kernel
theorem dX2_second_97 : decode cX2_second 97 = .ok (.putfield 38, 3) := by decide +kernel
theorem dX2_second_100 : decode cX2_second 100 = .ok (.iload 6, 2) := by decide +kernel
theorem dX2_second_102 : decode cX2_second 102 = .ok (.iload_n 3, 1) := by decide +kernel
theorem dX2_second_103 : decode cX2_second 103 = .ok (.if_icmp .eq 5, 3) := by decide +kernel
theorem dX2_second_106 : decode cX2_second 106 = .ok (.iconst 1, 1) := by decide +kernel
theorem dX2_second_107 : decode cX2_second 107 = .ok (.istore_n 1, 1) := by decide +kernel
theorem dX2_second_108 : decode cX2_second 108 = .ok (.aload_n 0, 1) := by decide +kernel
theorem dX2_second_109 : decode cX2_second 109 = .ok (.getfield 12, 3) := by decide +kernel
theorem dX2_second_112 : decode cX2_second 112 = .ok (.getfield 65, 3) := by decide +kernel
theorem dX2_second_115 : decode cX2_second 115 = .ok (.iload_n 2, 1) := by decide +kernel
theorem dX2_second_116 : decode cX2_second 116 = .ok (.iload 6, 2) := by decide +kernel
theorem dX2_second_118 : decode cX2_second 118 = .ok (.iastore, 1) := by decide +kernel
theorem dX2_second_119 : decode cX2_second 119 = .ok (.iinc 2 (-1), 3) := by decide +kernel
theorem dX2_second_122 : decode cX2_second 122 = .ok (.goto (-110), 3) := by decide +kernel
theorem dX2_second_125 : decode cX2_second 125 = .ok (.aload_n 0, 1) := by decide +kernel
theorem dX2_second_126 : decode cX2_second 126 = .ok (.dup, 1) := by decide +kernel
theorem dX2_second_127 : decode cX2_second 127 = .ok (.getfield 29, 3) := by decide +kernel
theorem dX2_second_130 : decode cX2_second 130 = .ok (.iconst 1, 1) := by decide +kernel
theorem dX2_second_131 : decode cX2_second 131 = .ok (.iadd, 1) := by decide +kernel
theorem dX2_second_132 : decode cX2_second 132 = .ok (.putfield 29, 3) := by decide +kernel
theorem dX2_second_135 : decode cX2_second 135 = .ok (.aload_n 0, 1) := by decide +kernel
theorem dX2_second_136 : decode cX2_second 136 = .ok (.getfield 12, 3) := by decide +kernel
theorem dX2_second_139 : decode cX2_second 139 = .ok (.invokevirtual 76, 3) := by decide +kernel
theorem dX2_second_142 : decode cX2_second 142 = .ok (.istore_n 2, 1) := by decide +kernel
theorem dX2_second_143 : decode cX2_second 143 = .ok (.iload_n 2, 1) := by decide +kernel
theorem dX2_second_144 : decode cX2_second 144 = .ok (.iconst (-1), 1) := by decide +kernel
theorem dX2_second_145 : decode cX2_second 145 = .ok (.if_icmp .ne 5, 3) := by decide +kernel
theorem dX2_second_148 : decode cX2_second 148 = .ok (.iload_n 1, 1) := by decide +kernel
theorem dX2_second_149 : decode cX2_second 149 = .ok (.ireturn, 1) := by decide +kernel
theorem dX2_second_150 : decode cX2_second 150 = .ok (.aload_n 0, 1) := by decide +kernel
theorem dX2_second_151 : decode cX2_second 151 = .ok (.getfield 12, 3) := by decide +kernel
theorem dX2_second_154 : decode cX2_second 154 = .ok (.iload_n 2, 1) := by decide +kernel
theorem dX2_second_155 : decode cX2_second 155 = .ok (.invokevirtual 80, 3) := by decide +kernel
theorem dX2_second_158 : decode cX2_second 158 = .ok (.aload_n 0, 1) := by decide +kernel
theorem dX2_second_159 : decode cX2_second 159 = .ok (.iconst 0, 1) := by decide +kernel
theorem dX2_second_160 : decode cX2_second 160 = .ok (.aload_n 0, 1) := by decide +kernel
theorem dX2_second_161 : decode cX2_second 161 = .ok (.getfield 26, 3) := by decide +kernel
theorem dX2_second_164 : decode cX2_second 164 = .ok (.iload_n 2, 1) := by decide +kernel
theorem dX2_second_165 : decode cX2_second 165 = .ok (.isub, 1) := by decide +kernel
theorem dX2_second_166 : decode cX2_second 166 = .ok (.invokestatic 83, 3) := by decide +kernel
theorem dX2_second_169 : decode cX2_second 169 = .ok (.putfield 26, 3) := by decide +kernel
theorem dX2_second_172 : decode cX2_second 172 = .ok (.aload_n 0, 1) := by decide +kernel
theorem dX2_second_173 : decode cX2_second 173 = .ok (.dup, 1) := by decide +kernel
theorem dX2_second_174 : decode cX2_second 174 = .ok (.getfield 35, 3) := by decide +kernel
theorem dX2_second_177 : decode cX2_second 177 = .ok (.iload_n 2, 1) := by decide +kernel
theorem dX2_second_178 : decode cX2_second 178 = .ok (.iadd, 1) := by decide +kernel
theorem dX2_second_179 : decode cX2_second 179 = .ok (.putfield 35, 3) := by decide +kernel
theorem dX2_second_182 : decode cX2_second 182 = .ok (.aload_n 0, 1) := by decide +kernel
theorem dX2_second_183 : decode cX2_second 183 = .ok (.getfield 32, 3) := by decide +kernel
theorem dX2_second_186 : decode cX2_second 186 = .ok (.iconst (-1), 1) := by decide +kernel
theorem dX2_second_187 : decode cX2_second 187 = .ok (.if_icmp .ne 11, 3) := by decide +kernel
theorem dX2_second_190 : decode cX2_second 190 = .ok (.aload_n 0, 1) := by decide +kernel
theorem dX2_second_191 : decode cX2_second 191 = .ok (.aload_n 0, 1) := by decide +kernel
theorem dX2_second_192 : decode cX2_second 192 = .ok (.getfield 29, 3) := by decide +kernel
theorem dX2_second_195 : decode cX2_second 195 = .ok (.putfield 32, 3) := by decide +kernel
theorem dX2_second_198 : decode cX2_second 198 = .ok (.iconst 1, 1) := by decide +kernel
theorem dX2_second_199 : decode cX2_second 199 = .ok (.ireturn, 1) := by decide +kernel
theorem dX3_init_0 : decode cX3_init 0 = .ok (.aload_n 0, 1) := by decide +kernel
theorem dX3_init_1 : decode cX3_init 1 = .ok (.invokespecial 3, 3) := by decide +kernel
theorem dX3_init_4 : decode cX3_init 4 = .ok (.aload_n 0, 1) := by decide +kernel
theorem dX3_init_5 : decode cX3_init 5 = .ok (.sipush 160, 3) := by decide +kernel
theorem dX3_init_8 : decode cX3_init 8 = .ok (.newarray .int, 2) := by decide +kernel
theorem dX3_init_10 : decode cX3_init 10 = .ok (.putfield 9, 3) := by decide +kernel
theorem dX3_init_13 : decode cX3_init 13 = .ok (.aload_n 0, 1) := by decide +kernel
theorem dX3_init_14 : decode cX3_init 14 = .ok (.iconst 3, 1) := by decide +kernel
theorem dX3_init_15 : decode cX3_init 15 = .ok (.newarray .int, 2) := by decide +kernel
theorem dX3_init_17 : decode cX3_init 17 = .ok (.putfield 15, 3) := by decide +kernel
theorem dX3_init_20 : decode cX3_init 20 = .ok (.aload_n 0, 1) := by decide +kernel
theorem dX3_init_21 : decode cX3_init 21 = .ok (.iconst (-1), 1) := by decide +kernel
theorem dX3_init_22 : decode cX3_init 22 = .ok (.putfield 18, 3) := by decide +kernel
theorem dX3_init_25 : decode cX3_init 25 = .ok (.aload_n 0, 1) := by decide +kernel
theorem dX3_init_26 : decode cX3_init 26 = .ok (.aload_n 1, 1) := by decide +kernel
theorem dX3_init_27 : decode cX3_init 27 = .ok (.putfield 22, 3) := by decide +kernel
theorem dX3_init_30 : decode cX3_init 30 = .ok (.aload_n 0, 1) := by decide +kernel
theorem dX3_init_31 : decode cX3_init 31 = .ok (.aload_n 2, 1) := by decide +kernel
theorem dX3_init_32 : decode cX3_init 32 = .ok (.putfield 26, 3) := by decide +kernel
theorem dX3_init_35 : decode cX3_init 35 = .ok (.return_, 1) := by decide +kernel
theorem dX3_read_0 : decode cX3_read 0 = .ok (.iconst 0, 1) := by decide +kernel
theorem dX3_read_1 : decode cX3_read 1 = .ok (.istore_n 2, 1) := by decide +kernel
theorem dX3_read_2 : decode cX3_read 2 = .ok (.iload_n 2, 1) := by decide +kernel
theorem dX3_read_3 : decode cX3_read 3 = .ok (.sipush 160, 3) := by decide +kernel
theorem dX3_read_6 : decode cX3_read 6 = .ok (.if_icmp .ge 21, 3) := by decide +kernel
theorem dX3_read_9 : decode cX3_read 9 = .ok (.aload_n 0, 1) := by decide +kernel
theorem dX3_read_10 : decode cX3_read 10 = .ok (.getfield 9, 3) := by decide +kernel
theorem dX3_read_13 : decode cX3_read 13 = .ok (.iload_n 2, 1) := by decide +kernel
theorem dX3_read_14 : decode cX3_read 14 = .ok (.aload_n 1, 1) := by decide +kernel
theorem dX3_read_15 : decode cX3_read 15 = .ok (.iload_n 2, 1) := by decide +kernel
theorem dX3_read_16 : decode cX3_read 16 = .ok (.invokevirtual 30, 3) := by decide +kernel
theorem dX3_read_19 : decode cX3_read 19 = .ok (.l2i, 1) := by decide +kernel
theorem dX3_read_20 : decode cX3_read 20 = .ok (.iastore, 1) := by decide +kernel
theorem dX3_read_21 : decode cX3_read 21 = .ok (.iinc 2 1, 3) := by decide +kernel
theorem dX3_read_24 : decode cX3_read 24 = .ok (.goto (-22), 3) := by decide +kernel
theorem dX3_read_27 : decode cX3_read 27 = .ok (.aload_n 0, 1) := by decide +kernel
theorem dX3_read_28 : decode cX3_read 28 = .ok (.aload_n 1, 1) := by decide +kernel
theorem dX3_read_29 : decode cX3_read 29 = .ok (.getfield 36, 3) := by decide +kernel
theorem dX3_read_32 : decode cX3_read 32 = .ok (.putfield 39, 3) := by decide +kernel
theorem dX3_read_35 : decode cX3_read 35 = .ok (.aload_n 0, 1) := by decide +kernel
theorem dX3_read_36 : decode cX3_read 36 = .ok (.iconst 0, 1) := by decide +kernel
theorem dX3_read_37 : decode cX3_read 37 = .ok (.putfield 40, 3) := by decide +kernel
theorem dX3_read_40 : decode cX3_read 40 = .ok (.aload_n 0, 1) := by decide +kernel
theorem dX3_read_41 : decode cX3_read 41 = .ok (.iconst (-1), 1) := by decide +kernel
theorem dX3_read_42 : decode cX3_read 42 = .ok (.putfield 18, 3) := by decide +kernel
theorem dX3_read_45 : decode cX3_read 45 = .ok (.iconst 0, 1) := by decide +kernel
theorem dX3_read_46 : decode cX3_read 46 = .ok (.istore_n 2, 1) := by decide +kernel
theorem dX3_read_47 : decode cX3_read 47 = .ok (.iconst 1, 1) := by decide +kernel
theorem dX3_read_48 : decode cX3_read 48 = .ok (.istore_n 3, 1) := by decide +kernel
theorem dX3_read_49 : decode cX3_read 49 = .ok (.iconst 0, 1) := by decide +kernel
theorem dX3_read_50 : decode cX3_read 50 = .ok (.istore 4, 2) := by decide +kernel
theorem dX3_read_52 : decode cX3_read 52 = .ok (.iload 4, 2) := by decide +kernel
theorem dX3_read_54 : decode cX3_read 54 = .ok (.sipush 160, 3) := by decide +kernel
theorem dX3_read_57 : decode cX3_read 57 = .ok (.if_icmp .ge 105, 3) := by decide +kernel
theorem dX3_read_60 : decode cX3_read 60 = .ok (.iload_n 3, 1) := by decide +kernel
theorem dX3_read_61 : decode cX3_read 61 = .ok (.ifCond .eq 101, 3) := by decide +kernel
theorem dX3_read_64 : decode cX3_read 64 = .ok (.aload_n 0, 1) := by decide +kernel
theorem dX3_read_65 : decode cX3_read 65 = .ok (.invokevirtual 43, 3) := by decide +kernel
theorem dX3_read_68 : decode cX3_read 68 = .ok (.istore 5, 2) := by decide +kernel
theorem dX3_read_70 : decode cX3_read 70 = .ok (.aload_n 0, 1) := by decide +kernel
theorem dX3_read_71 : decode cX3_read 71 = .ok (.iload 5, 2) := by decide +kernel
theorem dX3_read_73 : decode cX3_read 73 = .ok (.invokevirtual 47, 3) := by decide +kernel
theorem dX3_read_76 : decode cX3_read 76 = .ok (.ifCond .ne 5, 3) := by decide +kernel
theorem dX3_read_79 : decode cX3_read 79 = .ok (.iload_n 2, 1) := by decide +kernel
theorem dX3_read_80 : decode cX3_read 80 = .ok (.ireturn, 1) := by decide +kernel
theorem dX3_read_81 : decode cX3_read 81 = .ok (.iload 5, 2) := by decide +kernel
theorem dX3_read_83 : decode cX3_read 83 = .ok (.bipush 6, 2) := by decide +kernel
theorem dX3_read_85 : decode cX3_read 85 = .ok (.if_icmp .ne 36, 3) := by decide +kernel
theorem dX3_read_88 : decode cX3_read 88 = .ok (.aload_n 0, 1) := by decide +kernel
theorem dX3_read_89 : decode cX3_read 89 = .ok (.getfield 22, 3) := by decide +kernel
theorem dX3_read_92 : decode cX3_read 92 = .ok (.aload_n 0, 1) := by decide +kernel
theorem dX3_read_93 : decode cX3_read 93 = .ok (.getfield 15, 3) := by decide +kernel
theorem dX3_read_96 : decode cX3_read 96 = .ok (.iconst 0, 1) := by decide +kernel
theorem dX3_read_97 : decode cX3_read 97 = .ok (.iaload, 1) := by decide +kernel
theorem dX3_read_98 : decode cX3_read 98 = .ok (.aload_n 0, 1) := by decide +kernel
theorem dX3_read_99 : decode cX3_read 99 = .ok (.getfield 15, 3) := by decide +kernel
theorem dX3_read_102 : decode cX3_read 102 = .ok (.iconst 1, 1) := by decide +kernel
theorem dX3_read_103 : decode cX3_read 103 = .ok (.iaload, 1) := by decide +kernel
theorem dX3_read_104 : decode cX3_read 104 = .ok (.aload_n 0, 1) := by decide +kernel
theorem dX3_read_105 : decode cX3_read 105 = .ok (.getfield 15, 3) := by decide +kernel
theorem dX3_read_108 : decode cX3_read 108 = .ok (.iconst 2, 1) := by decide +kernel
theorem dX3_read_109 : decode cX3_read 109 = .ok (.iaload, 1) := by decide +kernel
theorem dX3_read_110 : decode cX3_read 110 = .ok (.aload_n 0, 1) := by decide +kernel
theorem dX3_read_111 : decode cX3_read 111 = .ok (.getfield 26, 3) := by decide +kernel
theorem dX3_read_114 : decode cX3_read 114 = .ok (.invokevirtual 51, 3) := by decide +kernel
theorem dX3_read_117 : decode cX3_read 117 = .ok (.pop, 1) := by decide +kernel
theorem dX3_read_118 : decode cX3_read 118 = .ok (.goto 9, 3) := by decide +kernel
theorem dX3_read_121 : decode cX3_read 121 = .ok (.aload_n 0, 1) := by decide +kernel
theorem dX3_read_122 : decode cX3_read 122 = .ok (.iload 5, 2) := by decide +kernel
theorem dX3_read_124 : decode cX3_read 124 = .ok (.invokevirtual 57, 3) := by decide +kernel
theorem dX3_read_127 : decode cX3_read 127 = .ok (.iinc 2 1, 3) := by decide +kernel
theorem dX3_read_130 : decode cX3_read 130 = .ok (.aload_n 0, 1) := by decide +kernel
theorem dX3_read_131 : decode cX3_read 131 = .ok (.getfield 40, 3) := by decide +kernel
theorem dX3_read_134 : decode cX3_read 134 = .ok (.aload_n 0, 1) := by decide +kernel
theorem dX3_read_135 : decode cX3_read 135 = .ok (.getfield 39, 3) := by decide +kernel
theorem dX3_read_138 : decode cX3_read 138 = .ok (.if_icmp .ge 16, 3) := by decide +kernel
theorem dX3_read_141 : decode cX3_read 141 = .ok (.aload_n 0, 1) := by decide +kernel
theorem dX3_read_142 : decode cX3_read 142 = .ok (.bipush 59, 2) := by decide +kernel
theorem dX3_read_144 : decode cX3_read 144 = .ok (.invokevirtual 61, 3) := by decide +kernel
theorem dX3_read_147 : decode cX3_read 147 = .ok (.ifCond .eq 7, 3) := by decide +kernel
theorem dX3_read_150 : decode cX3_read 150 = .ok (.iconst 1, 1) := by decide +kernel
theorem dX3_read_151 : decode cX3_read 151 = .ok (.goto 4, 3) := by decide +kernel
theorem dX3_read_154 : decode cX3_read 154 = .ok (.iconst 0, 1) := by decide +kernel
theorem dX3_read_155 : decode cX3_read 155 = .ok (.istore_n 3, 1) := by decide +kernel
theorem dX3_read_156 : decode cX3_read 156 = .ok (.iinc 4 1, 3) := by decide +kernel
theorem dX3_read_159 : decode cX3_read 159 = .ok (.goto (-107), 3) := by decide +kernel
theorem dX3_read_162 : decode cX3_read 162 = .ok (.iload_n 2, 1) := by decide +kernel
theorem dX3_read_163 : decode cX3_read 163 = .ok (.ireturn, 1) := by decide +kernel
theorem dX3_letter_0 : decode cX3_letter 0 = .ok (.iload_n 1, 1) := by decide +kernel
theorem dX3_letter_1 : decode cX3_letter 1 = .ok (.ifCond .lt 27, 3) := by decide +kernel
theorem dX3_letter_4 : decode cX3_letter 4 = .ok (.iload_n 1, 1) := by decide +kernel
theorem dX3_letter_5 : decode cX3_letter 5 = .ok (.aload_n 0, 1) := by decide +kernel
theorem dX3_letter_6 : decode cX3_letter 6 = .ok (.getfield 39, 3) := by decide +kernel
theorem dX3_letter_9 : decode cX3_letter 9 = .ok (.if_icmp .ge 19, 3) := by decide +kernel
theorem dX3_letter_12 : decode cX3_letter 12 = .ok (.iload_n 1, 1) := by decide +kernel
theorem dX3_letter_13 : decode cX3_letter 13 = .ok (.sipush 160, 3) := by decide +kernel
theorem dX3_letter_16 : decode cX3_letter 16 = .ok (.if_icmp .ge 12, 3) := by decide +kernel
theorem dX3_letter_19 : decode cX3_letter 19 = .ok (.aload_n 0, 1) := by decide +kernel
theorem dX3_letter_20 : decode cX3_letter 20 = .ok (.getfield 9, 3) := by decide +kernel
theorem dX3_letter_23 : decode cX3_letter 23 = .ok (.iload_n 1, 1) := by decide +kernel
theorem dX3_letter_24 : decode cX3_letter 24 = .ok (.iaload, 1) := by decide +kernel
theorem dX3_letter_25 : decode cX3_letter 25 = .ok (.goto 4, 3) := by decide +kernel
theorem dX3_letter_28 : decode cX3_letter 28 = .ok (.iconst (-1), 1) := by decide +kernel
theorem dX3_letter_29 : decode cX3_letter 29 = .ok (.ireturn, 1) := by decide +kernel
theorem dX3_takes_0 : decode cX3_takes 0 = .ok (.aload_n 0, 1) := by decide +kernel
theorem dX3_takes_1 : decode cX3_takes 1 = .ok (.aload_n 0, 1) := by decide +kernel
theorem dX3_takes_2 : decode cX3_takes 2 = .ok (.getfield 40, 3) := by decide +kernel
theorem dX3_takes_5 : decode cX3_takes 5 = .ok (.invokevirtual 65, 3) := by decide +kernel
theorem dX3_takes_8 : decode cX3_takes 8 = .ok (.iload_n 1, 1) := by decide +kernel
theorem dX3_takes_9 : decode cX3_takes 9 = .ok (.if_icmp .eq 13, 3) := by decide +kernel
theorem dX3_takes_12 : decode cX3_takes 12 = .ok (.aload_n 0, 1) := by decide +kernel
theorem dX3_takes_13 : decode cX3_takes 13 = .ok (.aload_n 0, 1) := by decide +kernel
theorem dX3_takes_14 : decode cX3_takes 14 = .ok (.getfield 40, 3) := by decide +kernel
theorem dX3_takes_17 : decode cX3_takes 17 = .ok (.putfield 18, 3) := by decide +kernel
theorem dX3_takes_20 : decode cX3_takes 20 = .ok (.iconst 0, 1) := by decide +kernel
theorem dX3_takes_21 : decode cX3_takes 21 = .ok (.ireturn, 1) := by decide +kernel
theorem dX3_takes_22 : decode cX3_takes 22 = .ok (.aload_n 0, 1) := by decide +kernel
theorem dX3_takes_23 : decode cX3_takes 23 = .ok (.dup, 1) := by decide +kernel
theorem dX3_takes_24 : decode cX3_takes 24 = .ok (.getfield 40, 3) := by decide +kernel
theorem dX3_takes_27 : decode cX3_takes 27 = .ok (.iconst 1, 1) := by decide +kernel
theorem dX3_takes_28 : decode cX3_takes 28 = .ok (.iadd, 1) := by decide +kernel
theorem dX3_takes_29 : decode cX3_takes 29 = .ok (.putfield 40, 3) := by decide +kernel
theorem dX3_takes_32 : decode cX3_takes 32 = .ok (.iconst 1, 1) := by decide +kernel
theorem dX3_takes_33 : decode cX3_takes 33 = .ok (.ireturn, 1) := by decide +kernel
theorem dX3_readWord_0 : decode cX3_readWord 0 = .ok (.iconst 0, 1) := by decide +kernel
theorem dX3_readWord_1 : decode cX3_readWord 1 = .ok (.istore_n 1, 1) := by decide +kernel
theorem dX3_readWord_2 : decode cX3_readWord 2 = .ok (.iconst 0, 1) := by decide +kernel
theorem dX3_readWord_3 : decode cX3_readWord 3 = .ok (.istore_n 2, 1) := by decide +kernel
theorem dX3_readWord_4 : decode cX3_readWord 4 = .ok (.iload_n 2, 1) := by decide +kernel
theorem dX3_readWord_5 : decode cX3_readWord 5 = .ok (.bipush 7, 2) := by decide +kernel
theorem dX3_readWord_7 : decode cX3_readWord 7 = .ok (.if_icmp .ge 76, 3) := by decide +kernel
theorem dX3_readWord_10 : decode cX3_readWord 10 = .ok (.iload_n 2, 1) := by decide +kernel
theorem dX3_readWord_11 : decode cX3_readWord 11 = .ok (.invokestatic 69, 3) := by decide +kernel
theorem dX3_readWord_14 : decode cX3_readWord 14 = .ok (.astore_n 3, 1) := by decide +kernel
theorem dX3_readWord_15 : decode cX3_readWord 15 = .ok (.iconst 0, 1) := by decide +kernel
theorem dX3_readWord_16 : decode cX3_readWord 16 = .ok (.istore 4, 2) := by decide +kernel
theorem dX3_readWord_18 : decode cX3_readWord 18 = .ok (.iload 4, 2) := by decide +kernel
theorem dX3_readWord_20 : decode cX3_readWord 20 = .ok (.aload_n 3, 1) := by decide +kernel
theorem dX3_readWord_21 : decode cX3_readWord 21 = .ok (.invokevirtual 73, 3) := by decide +kernel
theorem dX3_readWord_24 : decode cX3_readWord 24 = .ok (.if_icmp .ge 29, 3) := by decide +kernel
theorem dX3_readWord_27 : decode cX3_readWord 27 = .ok (.aload_n 0, 1) := by decide +kernel
theorem dX3_readWord_28 : decode cX3_readWord 28 = .ok (.aload_n 0, 1) := by decide +kernel
theorem dX3_readWord_29 : decode cX3_readWord 29 = .ok (.getfield 40, 3) := by decide +kernel
theorem dX3_readWord_32 : decode cX3_readWord 32 = .ok (.iload 4, 2) := by decide +kernel
theorem dX3_readWord_34 : decode cX3_readWord 34 = .ok (.iadd, 1) := by decide +kernel
theorem dX3_readWord_35 : decode cX3_readWord 35 = .ok (.invokevirtual 65, 3) := by decide +kernel
theorem dX3_readWord_38 : decode cX3_readWord 38 = .ok (.aload_n 3, 1) := by decide +kernel
theorem dX3_readWord_39 : decode cX3_readWord 39 = .ok (.iload 4, 2) := by decide +kernel
theorem dX3_readWord_41 : decode cX3_readWord 41 = .ok (.invokevirtual 77, 3) := by decide +kernel
theorem dX3_readWord_44 : decode cX3_readWord 44 = .ok (.if_icmp .ne 9, 3) := by decide +kernel
theorem dX3_readWord_47 : decode cX3_readWord 47 = .ok (.iinc 4 1, 3) := by decide +kernel
theorem dX3_readWord_50 : decode cX3_readWord 50 = .ok (.goto (-32), 3) := by decide +kernel
theorem dX3_readWord_53 : decode cX3_readWord 53 = .ok (.iload 4, 2) := by decide +kernel
theorem dX3_readWord_55 : decode cX3_readWord 55 = .ok (.aload_n 3, 1) := by decide +kernel
theorem dX3_readWord_56 : decode cX3_readWord 56 = .ok (.invokevirtual 73, 3) := by decide +kernel
theorem dX3_readWord_59 : decode cX3_readWord 59 = .ok (.if_icmp .ne 11, 3) := by decide +kernel
theorem dX3_readWord_62 : decode cX3_readWord 62 = .ok (.aload_n 0, 1) := by decide +kernel
theorem dX3_readWord_63 : decode cX3_readWord 63 = .ok (.iload_n 2, 1) := by decide +kernel
theorem dX3_readWord_64 : decode cX3_readWord 64 = .ok (.iload 4, 2) := by decide +kernel
theorem dX3_readWord_66 : decode cX3_readWord 66 = .ok (.invokevirtual 81, 3) := by decide +kernel
theorem dX3_readWord_69 : decode cX3_readWord 69 = .ok (.ireturn, 1) := by decide +kernel
theorem dX3_readWord_70 : decode cX3_readWord 70 = .ok (.iload_n 1, 1) := by decide +kernel
theorem dX3_readWord_71 : decode cX3_readWord 71 = .ok (.iload 4, 2) := by decide +kernel
theorem dX3_readWord_73 : decode cX3_readWord 73 = .ok (.invokestatic 85, 3) := by decide +kernel
theorem dX3_readWord_76 : decode cX3_readWord 76 = .ok (.istore_n 1, 1) := by decide +kernel
theorem dX3_readWord_77 : decode cX3_readWord 77 = .ok (.iinc 2 1, 3) := by decide +kernel
theorem dX3_readWord_80 : decode cX3_readWord 80 = .ok (.goto (-76), 3) := by decide +kernel
theorem dX3_readWord_83 : decode cX3_readWord 83 = .ok (.aload_n 0, 1) := by decide +kernel
theorem dX3_readWord_84 : decode cX3_readWord 84 = .ok (.aload_n 0, 1) := by decide +kernel
theorem dX3_readWord_85 : decode cX3_readWord 85 = .ok (.getfield 40, 3) := by decide +kernel
theorem dX3_readWord_88 : decode cX3_readWord 88 = .ok (.iload_n 1, 1) := by decide +kernel
theorem dX3_readWord_89 : decode cX3_readWord 89 = .ok (.iadd, 1) := by decide +kernel
theorem dX3_readWord_90 : decode cX3_readWord 90 = .ok (.putfield 18, 3) := by decide +kernel
theorem dX3_readWord_93 : decode cX3_readWord 93 = .ok (.iconst (-1), 1) := by decide +kernel
theorem dX3_readWord_94 : decode cX3_readWord 94 = .ok (.ireturn, 1) := by decide +kernel
theorem dX3_standsWhole_0 : decode cX3_standsWhole 0 = .ok (.iload_n 1, 1) := by decide +kernel
theorem dX3_standsWhole_1 : decode cX3_standsWhole 1 = .ok (.ifCond .ne 23, 3) := by decide +kernel
theorem dX3_standsWhole_4 : decode cX3_standsWhole 4 = .ok (.aload_n 0, 1) := by decide +kernel
theorem dX3_standsWhole_5 : decode cX3_standsWhole 5 = .ok (.getfield 22, 3) := by decide +kernel
theorem dX3_standsWhole_8 : decode cX3_standsWhole 8 = .ok (.invokevirtual 90, 3) := by decide +kernel
theorem dX3_standsWhole_11 : decode cX3_standsWhole 11 = .ok (.ifCond .ne 13, 3) := by decide +kernel
theorem dX3_standsWhole_14 : decode cX3_standsWhole 14 = .ok (.aload_n 0, 1) := by decide +kernel
theorem dX3_standsWhole_15 : decode cX3_standsWhole 15 = .ok (.aload_n 0, 1) := by decide +kernel
theorem dX3_standsWhole_16 : decode cX3_standsWhole 16 = .ok (.getfield 40, 3) := by decide +kernel
theorem dX3_standsWhole_19 : decode cX3_standsWhole 19 = .ok (.putfield 18, 3) := by decide +kernel
theorem dX3_standsWhole_22 : decode cX3_standsWhole 22 = .ok (.iconst (-1), 1) := by decide +kernel
theorem dX3_standsWhole_23 : decode cX3_standsWhole 23 = .ok (.ireturn, 1) := by decide +kernel
theorem dX3_standsWhole_24 : decode cX3_standsWhole 24 = .ok (.aload_n 0, 1) := by decide +kernel
theorem dX3_standsWhole_25 : decode cX3_standsWhole 25 = .ok (.dup, 1) := by decide +kernel
theorem dX3_standsWhole_26 : decode cX3_standsWhole 26 = .ok (.getfield 40, 3) := by decide +kernel
theorem dX3_standsWhole_29 : decode cX3_standsWhole 29 = .ok (.iload_n 2, 1) := by decide +kernel
theorem dX3_standsWhole_30 : decode cX3_standsWhole 30 = .ok (.iadd, 1) := by decide +kernel
theorem dX3_standsWhole_31 : decode cX3_standsWhole 31 = .ok (.putfield 40, 3) := by decide +kernel
theorem dX3_standsWhole_34 : decode cX3_standsWhole 34 = .ok (.iload_n 1, 1) := by decide +kernel
theorem dX3_standsWhole_35 : decode cX3_standsWhole 35 = .ok (.ireturn, 1) := by decide +kernel
theorem dX3_readNumbers_0 : decode cX3_readNumbers 0 = .ok (.iload_n 1, 1) := by decide +kernel
theorem dX3_readNumbers_1 : decode cX3_readNumbers 1 = .ok (.iconst (-1), 1) := by decide +kernel
theorem dX3_readNumbers_2 : decode cX3_readNumbers 2 = .ok (.if_icmp .ne 5, 3) := by decide +kernel
theorem dX3_readNumbers_5 : decode cX3_readNumbers 5 = .ok (.iconst 0, 1) := by decide +kernel
theorem dX3_readNumbers_6 : decode cX3_readNumbers 6 = .ok (.ireturn, 1) := by decide +kernel
theorem dX3_readNumbers_7 : decode cX3_readNumbers 7 = .ok (.iload_n 1, 1) := by decide +kernel
theorem dX3_readNumbers_8 : decode cX3_readNumbers 8 = .ok (.invokestatic 94, 3) := by decide +kernel
theorem dX3_readNumbers_11 : decode cX3_readNumbers 11 = .ok (.istore_n 2, 1) := by decide +kernel
theorem dX3_readNumbers_12 : decode cX3_readNumbers 12 = .ok (.iconst 0, 1) := by decide +kernel
theorem dX3_readNumbers_13 : decode cX3_readNumbers 13 = .ok (.istore_n 3, 1) := by decide +kernel
theorem dX3_readNumbers_14 : decode cX3_readNumbers 14 = .ok (.iload_n 3, 1) := by decide +kernel
theorem dX3_readNumbers_15 : decode cX3_readNumbers 15 = .ok (.iload_n 2, 1) := by decide +kernel
theorem dX3_readNumbers_16 : decode cX3_readNumbers 16 = .ok (.if_icmp .ge 34, 3) := by decide +kernel
theorem dX3_readNumbers_19 : decode cX3_readNumbers 19 = .ok (.iload_n 3, 1) := by decide +kernel
theorem dX3_readNumbers_20 : decode cX3_readNumbers 20 = .ok (.iconst 3, 1) := by decide +kernel
theorem dX3_readNumbers_21 : decode cX3_readNumbers 21 = .ok (.if_icmp .ge 29, 3) := by decide +kernel
theorem dX3_readNumbers_24 : decode cX3_readNumbers 24 = .ok (.aload_n 0, 1) := by decide +kernel
theorem dX3_readNumbers_25 : decode cX3_readNumbers 25 = .ok (.bipush 32, 2) := by decide +kernel
theorem dX3_readNumbers_27 : decode cX3_readNumbers 27 = .ok (.invokevirtual 61, 3) := by decide +kernel
theorem dX3_readNumbers_30 : decode cX3_readNumbers 30 = .ok (.ifCond .eq 12, 3) := by decide +kernel
theorem dX3_readNumbers_33 : decode cX3_readNumbers 33 = .ok (.aload_n 0, 1) := by decide +kernel
theorem dX3_readNumbers_34 : decode cX3_readNumbers 34 = .ok (.iload_n 1, 1) := by decide +kernel
theorem dX3_readNumbers_35 : decode cX3_readNumbers 35 = .ok (.iload_n 3, 1) := by decide +kernel
theorem dX3_readNumbers_36 : decode cX3_readNumbers 36 = .ok (.invokevirtual 97, 3) := by decide +kernel
theorem dX3_readNumbers_39 : decode cX3_readNumbers 39 = .ok (.ifCond .ne 5, 3) := by decide +kernel
theorem dX3_readNumbers_42 : decode cX3_readNumbers 42 = .ok (.iconst 0, 1) := by decide +kernel
theorem dX3_readNumbers_43 : decode cX3_readNumbers 43 = .ok (.ireturn, 1) := by decide +kernel
theorem dX3_readNumbers_44 : decode cX3_readNumbers 44 = .ok (.iinc 3 1, 3) := by decide +kernel
theorem dX3_readNumbers_47 : decode cX3_readNumbers 47 = .ok (.goto (-33), 3) := by decide +kernel
theorem dX3_readNumbers_50 : decode cX3_readNumbers 50 = .ok (.iconst 1, 1) := by decide +kernel
theorem dX3_readNumbers_51 : decode cX3_readNumbers 51 = .ok (.ireturn, 1) := by decide +kernel
theorem dX3_readNumber_0 : decode cX3_readNumber 0 = .ok (.aload_n 0, 1) := by decide +kernel
theorem dX3_readNumber_1 : decode cX3_readNumber 1 = .ok (.getfield 40, 3) := by decide +kernel
theorem dX3_readNumber_4 : decode cX3_readNumber 4 = .ok (.istore_n 3, 1) := by decide +kernel
theorem dX3_readNumber_5 : decode cX3_readNumber 5 = .ok (.iconst 0, 1) := by decide +kernel
theorem dX3_readNumber_6 : decode cX3_readNumber 6 = .ok (.istore 4, 2) := by decide +kernel
theorem dX3_readNumber_8 : decode cX3_readNumber 8 = .ok (.iconst 0, 1) := by decide +kernel
theorem dX3_readNumber_9 : decode cX3_readNumber 9 = .ok (.istore 5, 2) := by decide +kernel
theorem dX3_readNumber_11 : decode cX3_readNumber 11 = .ok (.iload 5, 2) := by decide +kernel
theorem dX3_readNumber_13 : decode cX3_readNumber 13 = .ok (.iconst 4, 1) := by decide +kernel
theorem dX3_readNumber_14 : decode cX3_readNumber 14 = .ok (.if_icmp .ge 56, 3) := by decide +kernel
theorem dX3_readNumber_17 : decode cX3_readNumber 17 = .ok (.aload_n 0, 1) := by decide +kernel
theorem dX3_readNumber_18 : decode cX3_readNumber 18 = .ok (.aload_n 0, 1) := by decide +kernel
theorem dX3_readNumber_19 : decode cX3_readNumber 19 = .ok (.getfield 40, 3) := by decide +kernel
theorem dX3_readNumber_22 : decode cX3_readNumber 22 = .ok (.invokevirtual 65, 3) := by decide +kernel
theorem dX3_readNumber_25 : decode cX3_readNumber 25 = .ok (.bipush 48, 2) := by decide +kernel
theorem dX3_readNumber_27 : decode cX3_readNumber 27 = .ok (.bipush 57, 2) := by decide +kernel
theorem dX3_readNumber_29 : decode cX3_readNumber 29 = .ok (.invokestatic 101, 3) := by decide +kernel
theorem dX3_readNumber_32 : decode cX3_readNumber 32 = .ok (.ifCond .eq 38, 3) := by decide +kernel
theorem dX3_readNumber_35 : decode cX3_readNumber 35 = .ok (.iload 4, 2) := by decide +kernel
theorem dX3_readNumber_37 : decode cX3_readNumber 37 = .ok (.bipush 10, 2) := by decide +kernel
theorem dX3_readNumber_39 : decode cX3_readNumber 39 = .ok (.imul, 1) := by decide +kernel
theorem dX3_readNumber_40 : decode cX3_readNumber 40 = .ok (.aload_n 0, 1) := by decide +kernel
theorem dX3_readNumber_41 : decode cX3_readNumber 41 = .ok (.aload_n 0, 1) := by decide +kernel
theorem dX3_readNumber_42 : decode cX3_readNumber 42 = .ok (.getfield 40, 3) := by decide +kernel
theorem dX3_readNumber_45 : decode cX3_readNumber 45 = .ok (.invokevirtual 65, 3) := by decide +kernel
theorem dX3_readNumber_48 : decode cX3_readNumber 48 = .ok (.iadd, 1) := by decide +kernel
theorem dX3_readNumber_49 : decode cX3_readNumber 49 = .ok (.bipush 48, 2) := by decide +kernel
theorem dX3_readNumber_51 : decode cX3_readNumber 51 = .ok (.isub, 1) := by decide +kernel
theorem dX3_readNumber_52 : decode cX3_readNumber 52 = .ok (.istore 4, 2) := by decide +kernel
theorem dX3_readNumber_54 : decode cX3_readNumber 54 = .ok (.iinc 5 1, 3) := by decide +kernel
theorem dX3_readNumber_57 : decode cX3_readNumber 57 = .ok (.aload_n 0, 1) := by decide +kernel
theorem dX3_readNumber_58 : decode cX3_readNumber 58 = .ok (.dup, 1) := by decide +kernel
theorem dX3_readNumber_59 : decode cX3_readNumber 59 = .ok (.getfield 40, 3) := by decide +kernel
theorem dX3_readNumber_62 : decode cX3_readNumber 62 = .ok (.iconst 1, 1) := by decide +kernel
theorem dX3_readNumber_63 : decode cX3_readNumber 63 = .ok (.iadd, 1) := by decide +kernel
theorem dX3_readNumber_64 : decode cX3_readNumber 64 = .ok (.putfield 40, 3) := by decide +kernel
theorem dX3_readNumber_67 : decode cX3_readNumber 67 = .ok (.goto (-56), 3) := by decide +kernel
theorem dX3_readNumber_70 : decode cX3_readNumber 70 = .ok (.aload_n 0, 1) := by decide +kernel
theorem dX3_readNumber_71 : decode cX3_readNumber 71 = .ok (.getfield 15, 3) := by decide +kernel
theorem dX3_readNumber_74 : decode cX3_readNumber 74 = .ok (.iload_n 2, 1) := by decide +kernel
theorem dX3_readNumber_75 : decode cX3_readNumber 75 = .ok (.iload 4, 2) := by decide +kernel
theorem dX3_readNumber_77 : decode cX3_readNumber 77 = .ok (.iastore, 1) := by decide +kernel
theorem dX3_readNumber_78 : decode cX3_readNumber 78 = .ok (.iload 5, 2) := by decide +kernel
theorem dX3_readNumber_80 : decode cX3_readNumber 80 = .ok (.ifCond .eq 14, 3) := by decide +kernel
theorem dX3_readNumber_83 : decode cX3_readNumber 83 = .ok (.aload_n 0, 1) := by decide +kernel
theorem dX3_readNumber_84 : decode cX3_readNumber 84 = .ok (.iload_n 1, 1) := by decide +kernel
theorem dX3_readNumber_85 : decode cX3_readNumber 85 = .ok (.iload_n 2, 1) := by decide +kernel
theorem dX3_readNumber_86 : decode cX3_readNumber 86 = .ok (.iload 4, 2) := by decide +kernel
theorem dX3_readNumber_88 : decode cX3_readNumber 88 = .ok (.invokevirtual 105, 3) := by decide +kernel
theorem dX3_readNumber_91 : decode cX3_readNumber 91 = .ok (.ifCond .ne 10, 3) := by decide +kernel
theorem dX3_readNumber_94 : decode cX3_readNumber 94 = .ok (.aload_n 0, 1) := by decide +kernel
theorem dX3_readNumber_95 : decode cX3_readNumber 95 = .ok (.iload_n 3, 1) := by decide +kernel
theorem dX3_readNumber_96 : decode cX3_readNumber 96 = .ok (.putfield 18, 3) := by decide +kernel
theorem dX3_readNumber_99 : decode cX3_readNumber 99 = .ok (.iconst 0, 1) := by decide +kernel
theorem dX3_readNumber_100 : decode cX3_readNumber 100 = .ok (.ireturn, 1) := by decide +kernel
theorem dX3_readNumber_101 : decode cX3_readNumber 101 = .ok (.iconst 1, 1) := by decide +kernel
theorem dX3_readNumber_102 : decode cX3_readNumber 102 = .ok (.ireturn, 1) := by decide +kernel
theorem dX3_lettersOf_0 : decode cX3_lettersOf 0 = .ok (.iload_n 0, 1) := by decide +kernel
theorem dX3_lettersOf_1 : decode cX3_lettersOf 1 = .ok (.tableswitch 57 0 5 #[39, 42, 45, 48, 51, 54], 39) := by decide +kernel
theorem dX3_lettersOf_40 : decode cX3_lettersOf 40 = .ok (.ldc 108, 2) := by decide +kernel
theorem dX3_lettersOf_42 : decode cX3_lettersOf 42 = .ok (.areturn, 1) := by decide +kernel
theorem dX3_lettersOf_43 : decode cX3_lettersOf 43 = .ok (.ldc 110, 2) := by decide +kernel
theorem dX3_lettersOf_45 : decode cX3_lettersOf 45 = .ok (.areturn, 1) := by decide +kernel
theorem dX3_lettersOf_46 : decode cX3_lettersOf 46 = .ok (.ldc 112, 2) := by decide +kernel
theorem dX3_lettersOf_48 : decode cX3_lettersOf 48 = .ok (.areturn, 1) := by decide +kernel
theorem dX3_lettersOf_49 : decode cX3_lettersOf 49 = .ok (.ldc 114, 2) := by decide +kernel
theorem dX3_lettersOf_51 : decode cX3_lettersOf 51 = .ok (.areturn, 1) := by decide +kernel
theorem dX3_lettersOf_52 : decode cX3_lettersOf 52 = .ok (.ldc 116, 2) := by decide +kernel
theorem dX3_lettersOf_54 : decode cX3_lettersOf 54 = .ok (.areturn, 1) := by decide +kernel
theorem dX3_lettersOf_55 : decode cX3_lettersOf 55 = .ok (.ldc 118, 2) := by decide +kernel
theorem dX3_lettersOf_57 : decode cX3_lettersOf 57 = .ok (.areturn, 1) := by decide +kernel
theorem dX3_lettersOf_58 : decode cX3_lettersOf 58 = .ok (.ldc 120, 2) := by decide +kernel
theorem dX3_lettersOf_60 : decode cX3_lettersOf 60 = .ok (.areturn, 1) := by decide +kernel
theorem dX3_numbersOf_0 : decode cX3_numbersOf 0 = .ok (.iload_n 0, 1) := by decide +kernel
theorem dX3_numbersOf_1 : decode cX3_numbersOf 1 = .ok (.tableswitch 47 0 6 #[43, 43, 47, 47, 47, 45, 43], 43) := by decide +kernel
theorem dX3_numbersOf_44 : decode cX3_numbersOf 44 = .ok (.iconst 3, 1) := by decide +kernel
theorem dX3_numbersOf_45 : decode cX3_numbersOf 45 = .ok (.ireturn, 1) := by decide +kernel
theorem dX3_numbersOf_46 : decode cX3_numbersOf 46 = .ok (.iconst 2, 1) := by decide +kernel
theorem dX3_numbersOf_47 : decode cX3_numbersOf 47 = .ok (.ireturn, 1) := by decide +kernel
theorem dX3_numbersOf_48 : decode cX3_numbersOf 48 = .ok (.iconst 1, 1) := by decide +kernel
theorem dX3_numbersOf_49 : decode cX3_numbersOf 49 = .ok (.ireturn, 1) := by decide +kernel
theorem dX3_mayBe_0 : decode cX3_mayBe 0 = .ok (.iload_n 1, 1) := by decide +kernel
theorem dX3_mayBe_1 : decode cX3_mayBe 1 = .ok (.tableswitch 200 0 5 #[39, 84, 137, 149, 157, 170], 39) := by decide +kernel
theorem dX3_mayBe_40 : decode cX3_mayBe 40 = .ok (.iload_n 2, 1) := by decide +kernel
theorem dX3_mayBe_41 : decode cX3_mayBe 41 = .ok (.ifCond .ne 17, 3) := by decide +kernel
theorem dX3_mayBe_44 : decode cX3_mayBe 44 = .ok (.iload_n 3, 1) := by decide +kernel
theorem dX3_mayBe_45 : decode cX3_mayBe 45 = .ok (.bipush 7, 2) := by decide +kernel
theorem dX3_mayBe_47 : decode cX3_mayBe 47 = .ok (.if_icmp .ge 7, 3) := by decide +kernel
theorem dX3_mayBe_50 : decode cX3_mayBe 50 = .ok (.iconst 1, 1) := by decide +kernel
theorem dX3_mayBe_51 : decode cX3_mayBe 51 = .ok (.goto 33, 3) := by decide +kernel
theorem dX3_mayBe_54 : decode cX3_mayBe 54 = .ok (.iconst 0, 1) := by decide +kernel
theorem dX3_mayBe_55 : decode cX3_mayBe 55 = .ok (.goto 29, 3) := by decide +kernel
theorem dX3_mayBe_58 : decode cX3_mayBe 58 = .ok (.iload_n 2, 1) := by decide +kernel
theorem dX3_mayBe_59 : decode cX3_mayBe 59 = .ok (.iconst 1, 1) := by decide +kernel
theorem dX3_mayBe_60 : decode cX3_mayBe 60 = .ok (.if_icmp .ne 13, 3) := by decide +kernel
theorem dX3_mayBe_63 : decode cX3_mayBe 63 = .ok (.iload_n 3, 1) := by decide +kernel
theorem dX3_mayBe_64 : decode cX3_mayBe 64 = .ok (.iconst 1, 1) := by decide +kernel
theorem dX3_mayBe_65 : decode cX3_mayBe 65 = .ok (.bipush 12, 2) := by decide +kernel
theorem dX3_mayBe_67 : decode cX3_mayBe 67 = .ok (.invokestatic 101, 3) := by decide +kernel
theorem dX3_mayBe_70 : decode cX3_mayBe 70 = .ok (.goto 14, 3) := by decide +kernel
theorem dX3_mayBe_73 : decode cX3_mayBe 73 = .ok (.iload_n 3, 1) := by decide +kernel
theorem dX3_mayBe_74 : decode cX3_mayBe 74 = .ok (.bipush 9, 2) := by decide +kernel
theorem dX3_mayBe_76 : decode cX3_mayBe 76 = .ok (.if_icmp .gt 7, 3) := by decide +kernel
theorem dX3_mayBe_79 : decode cX3_mayBe 79 = .ok (.iconst 1, 1) := by decide +kernel
theorem dX3_mayBe_80 : decode cX3_mayBe 80 = .ok (.goto 4, 3) := by decide +kernel
theorem dX3_mayBe_83 : decode cX3_mayBe 83 = .ok (.iconst 0, 1) := by decide +kernel
theorem dX3_mayBe_84 : decode cX3_mayBe 84 = .ok (.ireturn, 1) := by decide +kernel
theorem dX3_mayBe_85 : decode cX3_mayBe 85 = .ok (.iload_n 2, 1) := by decide +kernel
theorem dX3_mayBe_86 : decode cX3_mayBe 86 = .ok (.ifCond .ne 14, 3) := by decide +kernel
theorem dX3_mayBe_89 : decode cX3_mayBe 89 = .ok (.aload_n 0, 1) := by decide +kernel
theorem dX3_mayBe_90 : decode cX3_mayBe 90 = .ok (.getfield 22, 3) := by decide +kernel
theorem dX3_mayBe_93 : decode cX3_mayBe 93 = .ok (.iload_n 3, 1) := by decide +kernel
theorem dX3_mayBe_94 : decode cX3_mayBe 94 = .ok (.invokevirtual 122, 3) := by decide +kernel
theorem dX3_mayBe_97 : decode cX3_mayBe 97 = .ok (.goto 40, 3) := by decide +kernel
theorem dX3_mayBe_100 : decode cX3_mayBe 100 = .ok (.iload_n 2, 1) := by decide +kernel
theorem dX3_mayBe_101 : decode cX3_mayBe 101 = .ok (.iconst 1, 1) := by decide +kernel
theorem dX3_mayBe_102 : decode cX3_mayBe 102 = .ok (.if_icmp .ne 24, 3) := by decide +kernel
theorem dX3_mayBe_105 : decode cX3_mayBe 105 = .ok (.aload_n 0, 1) := by decide +kernel
theorem dX3_mayBe_106 : decode cX3_mayBe 106 = .ok (.getfield 22, 3) := by decide +kernel
theorem dX3_mayBe_109 : decode cX3_mayBe 109 = .ok (.getfield 125, 3) := by decide +kernel
theorem dX3_mayBe_112 : decode cX3_mayBe 112 = .ok (.aload_n 0, 1) := by decide +kernel
theorem dX3_mayBe_113 : decode cX3_mayBe 113 = .ok (.getfield 15, 3) := by decide +kernel
theorem dX3_mayBe_116 : decode cX3_mayBe 116 = .ok (.iconst 0, 1) := by decide +kernel
theorem dX3_mayBe_117 : decode cX3_mayBe 117 = .ok (.iaload, 1) := by decide +kernel
theorem dX3_mayBe_118 : decode cX3_mayBe 118 = .ok (.aaload, 1) := by decide +kernel
theorem dX3_mayBe_119 : decode cX3_mayBe 119 = .ok (.iload_n 3, 1) := by decide +kernel
theorem dX3_mayBe_120 : decode cX3_mayBe 120 = .ok (.invokevirtual 129, 3) := by decide +kernel
theorem dX3_mayBe_123 : decode cX3_mayBe 123 = .ok (.goto 14, 3) := by decide +kernel
theorem dX3_mayBe_126 : decode cX3_mayBe 126 = .ok (.iload_n 3, 1) := by decide +kernel
theorem dX3_mayBe_127 : decode cX3_mayBe 127 = .ok (.bipush 99, 2) := by decide +kernel
theorem dX3_mayBe_129 : decode cX3_mayBe 129 = .ok (.if_icmp .gt 7, 3) := by decide +kernel
theorem dX3_mayBe_132 : decode cX3_mayBe 132 = .ok (.iconst 1, 1) := by decide +kernel
theorem dX3_mayBe_133 : decode cX3_mayBe 133 = .ok (.goto 4, 3) := by decide +kernel
theorem dX3_mayBe_136 : decode cX3_mayBe 136 = .ok (.iconst 0, 1) := by decide +kernel
theorem dX3_mayBe_137 : decode cX3_mayBe 137 = .ok (.ireturn, 1) := by decide +kernel
theorem dX3_mayBe_138 : decode cX3_mayBe 138 = .ok (.iload_n 3, 1) := by decide +kernel
theorem dX3_mayBe_139 : decode cX3_mayBe 139 = .ok (.bipush 99, 2) := by decide +kernel
theorem dX3_mayBe_141 : decode cX3_mayBe 141 = .ok (.if_icmp .gt 7, 3) := by decide +kernel
theorem dX3_mayBe_144 : decode cX3_mayBe 144 = .ok (.iconst 1, 1) := by decide +kernel
theorem dX3_mayBe_145 : decode cX3_mayBe 145 = .ok (.goto 4, 3) := by decide +kernel
theorem dX3_mayBe_148 : decode cX3_mayBe 148 = .ok (.iconst 0, 1) := by decide +kernel
theorem dX3_mayBe_149 : decode cX3_mayBe 149 = .ok (.ireturn, 1) := by decide +kernel
theorem dX3_mayBe_150 : decode cX3_mayBe 150 = .ok (.iload_n 3, 1) := by decide +kernel
theorem dX3_mayBe_151 : decode cX3_mayBe 151 = .ok (.iconst 1, 1) := by decide +kernel
theorem dX3_mayBe_152 : decode cX3_mayBe 152 = .ok (.bipush 99, 2) := by decide +kernel
theorem dX3_mayBe_154 : decode cX3_mayBe 154 = .ok (.invokestatic 101, 3) := by decide +kernel
theorem dX3_mayBe_157 : decode cX3_mayBe 157 = .ok (.ireturn, 1) := by decide +kernel
theorem dX3_mayBe_158 : decode cX3_mayBe 158 = .ok (.iload_n 3, 1) := by decide +kernel
theorem dX3_mayBe_159 : decode cX3_mayBe 159 = .ok (.sipush 9999, 3) := by decide +kernel
theorem dX3_mayBe_162 : decode cX3_mayBe 162 = .ok (.if_icmp .gt 7, 3) := by decide +kernel
theorem dX3_mayBe_165 : decode cX3_mayBe 165 = .ok (.iconst 1, 1) := by decide +kernel
theorem dX3_mayBe_166 : decode cX3_mayBe 166 = .ok (.goto 4, 3) := by decide +kernel
theorem dX3_mayBe_169 : decode cX3_mayBe 169 = .ok (.iconst 0, 1) := by decide +kernel
theorem dX3_mayBe_170 : decode cX3_mayBe 170 = .ok (.ireturn, 1) := by decide +kernel
theorem dX3_mayBe_171 : decode cX3_mayBe 171 = .ok (.iload_n 2, 1) := by decide +kernel
theorem dX3_mayBe_172 : decode cX3_mayBe 172 = .ok (.ifCond .ne 17, 3) := by decide +kernel
theorem dX3_mayBe_175 : decode cX3_mayBe 175 = .ok (.iload_n 3, 1) := by decide +kernel
theorem dX3_mayBe_176 : decode cX3_mayBe 176 = .ok (.bipush 10, 2) := by decide +kernel
theorem dX3_mayBe_178 : decode cX3_mayBe 178 = .ok (.if_icmp .ge 7, 3) := by decide +kernel
theorem dX3_mayBe_181 : decode cX3_mayBe 181 = .ok (.iconst 1, 1) := by decide +kernel
theorem dX3_mayBe_182 : decode cX3_mayBe 182 = .ok (.goto 18, 3) := by decide +kernel
theorem dX3_mayBe_185 : decode cX3_mayBe 185 = .ok (.iconst 0, 1) := by decide +kernel
theorem dX3_mayBe_186 : decode cX3_mayBe 186 = .ok (.goto 14, 3) := by decide +kernel
theorem dX3_mayBe_189 : decode cX3_mayBe 189 = .ok (.iload_n 3, 1) := by decide +kernel
theorem dX3_mayBe_190 : decode cX3_mayBe 190 = .ok (.bipush 99, 2) := by decide +kernel
theorem dX3_mayBe_192 : decode cX3_mayBe 192 = .ok (.if_icmp .gt 7, 3) := by decide +kernel
theorem dX3_mayBe_195 : decode cX3_mayBe 195 = .ok (.iconst 1, 1) := by decide +kernel
theorem dX3_mayBe_196 : decode cX3_mayBe 196 = .ok (.goto 4, 3) := by decide +kernel
theorem dX3_mayBe_199 : decode cX3_mayBe 199 = .ok (.iconst 0, 1) := by decide +kernel
theorem dX3_mayBe_200 : decode cX3_mayBe 200 = .ok (.ireturn, 1) := by decide +kernel
theorem dX3_mayBe_201 : decode cX3_mayBe 201 = .ok (.iload_n 2, 1) := by decide +kernel
theorem dX3_mayBe_202 : decode cX3_mayBe 202 = .ok (.ifCond .ne 37, 3) := by decide +kernel
theorem dX3_mayBe_205 : decode cX3_mayBe 205 = .ok (.aload_n 0, 1) := by decide +kernel
theorem dX3_mayBe_206 : decode cX3_mayBe 206 = .ok (.getfield 22, 3) := by decide +kernel
theorem dX3_mayBe_209 : decode cX3_mayBe 209 = .ok (.iload_n 3, 1) := by decide +kernel
theorem dX3_mayBe_210 : decode cX3_mayBe 210 = .ok (.invokevirtual 122, 3) := by decide +kernel
theorem dX3_mayBe_213 : decode cX3_mayBe 213 = .ok (.ifCond .eq 22, 3) := by decide +kernel
theorem dX3_mayBe_216 : decode cX3_mayBe 216 = .ok (.aload_n 0, 1) := by decide +kernel
theorem dX3_mayBe_217 : decode cX3_mayBe 217 = .ok (.getfield 22, 3) := by decide +kernel
theorem dX3_mayBe_220 : decode cX3_mayBe 220 = .ok (.getfield 125, 3) := by decide +kernel
theorem dX3_mayBe_223 : decode cX3_mayBe 223 = .ok (.iload_n 3, 1) := by decide +kernel
theorem dX3_mayBe_224 : decode cX3_mayBe 224 = .ok (.aaload, 1) := by decide +kernel
theorem dX3_mayBe_225 : decode cX3_mayBe 225 = .ok (.getfield 134, 3) := by decide +kernel
theorem dX3_mayBe_228 : decode cX3_mayBe 228 = .ok (.ifCond .le 7, 3) := by decide +kernel
theorem dX3_mayBe_231 : decode cX3_mayBe 231 = .ok (.iconst 1, 1) := by decide +kernel
theorem dX3_mayBe_232 : decode cX3_mayBe 232 = .ok (.goto 37, 3) := by decide +kernel
theorem dX3_mayBe_235 : decode cX3_mayBe 235 = .ok (.iconst 0, 1) := by decide +kernel
theorem dX3_mayBe_236 : decode cX3_mayBe 236 = .ok (.goto 33, 3) := by decide +kernel
theorem dX3_mayBe_239 : decode cX3_mayBe 239 = .ok (.iload_n 2, 1) := by decide +kernel
theorem dX3_mayBe_240 : decode cX3_mayBe 240 = .ok (.iconst 1, 1) := by decide +kernel
theorem dX3_mayBe_241 : decode cX3_mayBe 241 = .ok (.if_icmp .ne 17, 3) := by decide +kernel
theorem dX3_mayBe_244 : decode cX3_mayBe 244 = .ok (.iload_n 3, 1) := by decide +kernel
theorem dX3_mayBe_245 : decode cX3_mayBe 245 = .ok (.bipush 12, 2) := by decide +kernel
theorem dX3_mayBe_247 : decode cX3_mayBe 247 = .ok (.if_icmp .gt 7, 3) := by decide +kernel
theorem dX3_mayBe_250 : decode cX3_mayBe 250 = .ok (.iconst 1, 1) := by decide +kernel
theorem dX3_mayBe_251 : decode cX3_mayBe 251 = .ok (.goto 18, 3) := by decide +kernel
theorem dX3_mayBe_254 : decode cX3_mayBe 254 = .ok (.iconst 0, 1) := by decide +kernel
theorem dX3_mayBe_255 : decode cX3_mayBe 255 = .ok (.goto 14, 3) := by decide +kernel
theorem dX3_mayBe_258 : decode cX3_mayBe 258 = .ok (.iload_n 3, 1) := by decide +kernel
theorem dX3_mayBe_259 : decode cX3_mayBe 259 = .ok (.bipush 60, 2) := by decide +kernel
theorem dX3_mayBe_261 : decode cX3_mayBe 261 = .ok (.if_icmp .gt 7, 3) := by decide +kernel
theorem dX3_mayBe_264 : decode cX3_mayBe 264 = .ok (.iconst 1, 1) := by decide +kernel
theorem dX3_mayBe_265 : decode cX3_mayBe 265 = .ok (.goto 4, 3) := by decide +kernel
theorem dX3_mayBe_268 : decode cX3_mayBe 268 = .ok (.iconst 0, 1) := by decide +kernel
theorem dX3_mayBe_269 : decode cX3_mayBe 269 = .ok (.ireturn, 1) := by decide +kernel
theorem dX3_tell_0 : decode cX3_tell 0 = .ok (.iload_n 1, 1) := by decide +kernel
theorem dX3_tell_1 : decode cX3_tell 1 = .ok (.tableswitch 145 0 4 #[35, 64, 97, 113, 129], 35) := by decide +kernel
theorem dX3_tell_36 : decode cX3_tell 36 = .ok (.aload_n 0, 1) := by decide +kernel
theorem dX3_tell_37 : decode cX3_tell 37 = .ok (.getfield 22, 3) := by decide +kernel
theorem dX3_tell_40 : decode cX3_tell 40 = .ok (.aload_n 0, 1) := by decide +kernel
theorem dX3_tell_41 : decode cX3_tell 41 = .ok (.getfield 15, 3) := by decide +kernel
theorem dX3_tell_44 : decode cX3_tell 44 = .ok (.iconst 0, 1) := by decide +kernel
theorem dX3_tell_45 : decode cX3_tell 45 = .ok (.iaload, 1) := by decide +kernel
theorem dX3_tell_46 : decode cX3_tell 46 = .ok (.aload_n 0, 1) := by decide +kernel
theorem dX3_tell_47 : decode cX3_tell 47 = .ok (.getfield 15, 3) := by decide +kernel
theorem dX3_tell_50 : decode cX3_tell 50 = .ok (.iconst 1, 1) := by decide +kernel
theorem dX3_tell_51 : decode cX3_tell 51 = .ok (.iaload, 1) := by decide +kernel
theorem dX3_tell_52 : decode cX3_tell 52 = .ok (.aload_n 0, 1) := by decide +kernel
theorem dX3_tell_53 : decode cX3_tell 53 = .ok (.getfield 15, 3) := by decide +kernel
theorem dX3_tell_56 : decode cX3_tell 56 = .ok (.iconst 2, 1) := by decide +kernel
theorem dX3_tell_57 : decode cX3_tell 57 = .ok (.iaload, 1) := by decide +kernel
theorem dX3_tell_58 : decode cX3_tell 58 = .ok (.invokevirtual 137, 3) := by decide +kernel
theorem dX3_tell_61 : decode cX3_tell 61 = .ok (.pop, 1) := by decide +kernel
theorem dX3_tell_62 : decode cX3_tell 62 = .ok (.goto 104, 3) := by decide +kernel
theorem dX3_tell_65 : decode cX3_tell 65 = .ok (.aload_n 0, 1) := by decide +kernel
theorem dX3_tell_66 : decode cX3_tell 66 = .ok (.getfield 22, 3) := by decide +kernel
theorem dX3_tell_69 : decode cX3_tell 69 = .ok (.getfield 125, 3) := by decide +kernel
theorem dX3_tell_72 : decode cX3_tell 72 = .ok (.aload_n 0, 1) := by decide +kernel
theorem dX3_tell_73 : decode cX3_tell 73 = .ok (.getfield 15, 3) := by decide +kernel
theorem dX3_tell_76 : decode cX3_tell 76 = .ok (.iconst 0, 1) := by decide +kernel
theorem dX3_tell_77 : decode cX3_tell 77 = .ok (.iaload, 1) := by decide +kernel
theorem dX3_tell_78 : decode cX3_tell 78 = .ok (.aaload, 1) := by decide +kernel
theorem dX3_tell_79 : decode cX3_tell 79 = .ok (.getfield 141, 3) := by decide +kernel
theorem dX3_tell_82 : decode cX3_tell 82 = .ok (.aload_n 0, 1) := by decide +kernel
theorem dX3_tell_83 : decode cX3_tell 83 = .ok (.getfield 15, 3) := by decide +kernel
theorem dX3_tell_86 : decode cX3_tell 86 = .ok (.iconst 1, 1) := by decide +kernel
theorem dX3_tell_87 : decode cX3_tell 87 = .ok (.iaload, 1) := by decide +kernel
theorem dX3_tell_88 : decode cX3_tell 88 = .ok (.aload_n 0, 1) := by decide +kernel
theorem dX3_tell_89 : decode cX3_tell 89 = .ok (.getfield 15, 3) := by decide +kernel
theorem dX3_tell_92 : decode cX3_tell 92 = .ok (.iconst 2, 1) := by decide +kernel
theorem dX3_tell_93 : decode cX3_tell 93 = .ok (.iaload, 1) := by decide +kernel
theorem dX3_tell_94 : decode cX3_tell 94 = .ok (.iastore, 1) := by decide +kernel
theorem dX3_tell_95 : decode cX3_tell 95 = .ok (.goto 71, 3) := by decide +kernel
theorem dX3_tell_98 : decode cX3_tell 98 = .ok (.aload_n 0, 1) := by decide +kernel
theorem dX3_tell_99 : decode cX3_tell 99 = .ok (.getfield 22, 3) := by decide +kernel
theorem dX3_tell_102 : decode cX3_tell 102 = .ok (.aload_n 0, 1) := by decide +kernel
theorem dX3_tell_103 : decode cX3_tell 103 = .ok (.getfield 15, 3) := by decide +kernel
theorem dX3_tell_106 : decode cX3_tell 106 = .ok (.iconst 0, 1) := by decide +kernel
theorem dX3_tell_107 : decode cX3_tell 107 = .ok (.iaload, 1) := by decide +kernel
theorem dX3_tell_108 : decode cX3_tell 108 = .ok (.putfield 144, 3) := by decide +kernel
theorem dX3_tell_111 : decode cX3_tell 111 = .ok (.goto 55, 3) := by decide +kernel
theorem dX3_tell_114 : decode cX3_tell 114 = .ok (.aload_n 0, 1) := by decide +kernel
theorem dX3_tell_115 : decode cX3_tell 115 = .ok (.getfield 22, 3) := by decide +kernel
theorem dX3_tell_118 : decode cX3_tell 118 = .ok (.aload_n 0, 1) := by decide +kernel
theorem dX3_tell_119 : decode cX3_tell 119 = .ok (.getfield 15, 3) := by decide +kernel
theorem dX3_tell_122 : decode cX3_tell 122 = .ok (.iconst 0, 1) := by decide +kernel
theorem dX3_tell_123 : decode cX3_tell 123 = .ok (.iaload, 1) := by decide +kernel
theorem dX3_tell_124 : decode cX3_tell 124 = .ok (.putfield 146, 3) := by decide +kernel
theorem dX3_tell_127 : decode cX3_tell 127 = .ok (.goto 39, 3) := by decide +kernel
theorem dX3_tell_130 : decode cX3_tell 130 = .ok (.aload_n 0, 1) := by decide +kernel
theorem dX3_tell_131 : decode cX3_tell 131 = .ok (.getfield 22, 3) := by decide +kernel
theorem dX3_tell_134 : decode cX3_tell 134 = .ok (.aload_n 0, 1) := by decide +kernel
theorem dX3_tell_135 : decode cX3_tell 135 = .ok (.getfield 15, 3) := by decide +kernel
theorem dX3_tell_138 : decode cX3_tell 138 = .ok (.iconst 0, 1) := by decide +kernel
theorem dX3_tell_139 : decode cX3_tell 139 = .ok (.iaload, 1) := by decide +kernel
theorem dX3_tell_140 : decode cX3_tell 140 = .ok (.putfield 148, 3) := by decide +kernel
theorem dX3_tell_143 : decode cX3_tell 143 = .ok (.goto 23, 3) := by decide +kernel
theorem dX3_tell_146 : decode cX3_tell 146 = .ok (.aload_n 0, 1) := by decide +kernel
theorem dX3_tell_147 : decode cX3_tell 147 = .ok (.getfield 22, 3) := by decide +kernel
theorem dX3_tell_150 : decode cX3_tell 150 = .ok (.getfield 150, 3) := by decide +kernel
theorem dX3_tell_153 : decode cX3_tell 153 = .ok (.aload_n 0, 1) := by decide +kernel
theorem dX3_tell_154 : decode cX3_tell 154 = .ok (.getfield 15, 3) := by decide +kernel
theorem dX3_tell_157 : decode cX3_tell 157 = .ok (.iconst 0, 1) := by decide +kernel
theorem dX3_tell_158 : decode cX3_tell 158 = .ok (.iaload, 1) := by decide +kernel
theorem dX3_tell_159 : decode cX3_tell 159 = .ok (.aload_n 0, 1) := by decide +kernel
theorem dX3_tell_160 : decode cX3_tell 160 = .ok (.getfield 15, 3) := by decide +kernel
theorem dX3_tell_163 : decode cX3_tell 163 = .ok (.iconst 1, 1) := by decide +kernel
theorem dX3_tell_164 : decode cX3_tell 164 = .ok (.iaload, 1) := by decide +kernel
theorem dX3_tell_165 : decode cX3_tell 165 = .ok (.iastore, 1) := by decide +kernel
theorem dX3_tell_166 : decode cX3_tell 166 = .ok (.return_, 1) := by decide +kernel
theorem dX4_init_0 : decode cX4_init 0 = .ok (.aload_n 0, 1) := by decide +kernel
theorem dX4_init_1 : decode cX4_init 1 = .ok (.invokespecial 3, 3) := by decide +kernel
theorem dX4_init_4 : decode cX4_init 4 = .ok (.aload_n 0, 1) := by decide +kernel
theorem dX4_init_5 : decode cX4_init 5 = .ok (.sipush 160, 3) := by decide +kernel
theorem dX4_init_8 : decode cX4_init 8 = .ok (.newarray .long, 2) := by decide +kernel
theorem dX4_init_10 : decode cX4_init 10 = .ok (.putfield 9, 3) := by decide +kernel
theorem dX4_init_13 : decode cX4_init 13 = .ok (.aload_n 0, 1) := by decide +kernel
theorem dX4_init_14 : decode cX4_init 14 = .ok (.iconst (-1), 1) := by decide +kernel
theorem dX4_init_15 : decode cX4_init 15 = .ok (.putfield 15, 3) := by decide +kernel
theorem dX4_init_18 : decode cX4_init 18 = .ok (.aload_n 0, 1) := by decide +kernel
theorem dX4_init_19 : decode cX4_init 19 = .ok (.iconst (-1), 1) := by decide +kernel
theorem dX4_init_20 : decode cX4_init 20 = .ok (.putfield 19, 3) := by decide +kernel
theorem dX4_init_23 : decode cX4_init 23 = .ok (.return_, 1) := by decide +kernel
theorem dX4_takeRow_0 : decode cX4_takeRow 0 = .ok (.aload_n 0, 1) := by decide +kernel
theorem dX4_takeRow_1 : decode cX4_takeRow 1 = .ok (.iconst (-1), 1) := by decide +kernel
theorem dX4_takeRow_2 : decode cX4_takeRow 2 = .ok (.putfield 19, 3) := by decide +kernel
theorem dX4_takeRow_5 : decode cX4_takeRow 5 = .ok (.aload_n 0, 1) := by decide +kernel
theorem dX4_takeRow_6 : decode cX4_takeRow 6 = .ok (.iload_n 1, 1) := by decide +kernel
theorem dX4_takeRow_7 : decode cX4_takeRow 7 = .ok (.putfield 15, 3) := by decide +kernel
theorem dX4_takeRow_10 : decode cX4_takeRow 10 = .ok (.aload_n 0, 1) := by decide +kernel
theorem dX4_takeRow_11 : decode cX4_takeRow 11 = .ok (.iload_n 2, 1) := by decide +kernel
theorem dX4_takeRow_12 : decode cX4_takeRow 12 = .ok (.putfield 22, 3) := by decide +kernel
theorem dX4_takeRow_15 : decode cX4_takeRow 15 = .ok (.iconst 0, 1) := by decide +kernel
theorem dX4_takeRow_16 : decode cX4_takeRow 16 = .ok (.istore_n 3, 1) := by decide +kernel
theorem dX4_takeRow_17 : decode cX4_takeRow 17 = .ok (.iload_n 3, 1) := by decide +kernel
theorem dX4_takeRow_18 : decode cX4_takeRow 18 = .ok (.sipush 160, 3) := by decide +kernel
theorem dX4_takeRow_21 : decode cX4_takeRow 21 = .ok (.if_icmp .ge 16, 3) := by decide +kernel
theorem dX4_takeRow_24 : decode cX4_takeRow 24 = .ok (.aload_n 0, 1) := by decide +kernel
theorem dX4_takeRow_25 : decode cX4_takeRow 25 = .ok (.getfield 9, 3) := by decide +kernel
theorem dX4_takeRow_28 : decode cX4_takeRow 28 = .ok (.iload_n 3, 1) := by decide +kernel
theorem dX4_takeRow_29 : decode cX4_takeRow 29 = .ok (.lconst 0, 1) := by decide +kernel
theorem dX4_takeRow_30 : decode cX4_takeRow 30 = .ok (.lastore, 1) := by decide +kernel
theorem dX4_takeRow_31 : decode cX4_takeRow 31 = .ok (.iinc 3 1, 3) := by decide +kernel
theorem dX4_takeRow_34 : decode cX4_takeRow 34 = .ok (.goto (-17), 3) := by decide +kernel
theorem dX4_takeRow_37 : decode cX4_takeRow 37 = .ok (.return_, 1) := by decide +kernel
theorem dX4_takeBiscuit_0 : decode cX4_takeBiscuit 0 = .ok (.aload_n 0, 1) := by decide +kernel
theorem dX4_takeBiscuit_1 : decode cX4_takeBiscuit 1 = .ok (.iload_n 1, 1) := by decide +kernel
theorem dX4_takeBiscuit_2 : decode cX4_takeBiscuit 2 = .ok (.putfield 19, 3) := by decide +kernel
theorem dX4_takeBiscuit_5 : decode cX4_takeBiscuit 5 = .ok (.aload_n 0, 1) := by decide +kernel
theorem dX4_takeBiscuit_6 : decode cX4_takeBiscuit 6 = .ok (.iconst (-1), 1) := by decide +kernel
theorem dX4_takeBiscuit_7 : decode cX4_takeBiscuit 7 = .ok (.putfield 15, 3) := by decide +kernel
theorem dX4_takeBiscuit_10 : decode cX4_takeBiscuit 10 = .ok (.aload_n 0, 1) := by decide +kernel
theorem dX4_takeBiscuit_11 : decode cX4_takeBiscuit 11 = .ok (.iconst 0, 1) := by decide +kernel
theorem dX4_takeBiscuit_12 : decode cX4_takeBiscuit 12 = .ok (.putfield 22, 3) := by decide +kernel
theorem dX4_takeBiscuit_15 : decode cX4_takeBiscuit 15 = .ok (.return_, 1) := by decide +kernel
theorem dX4_holdsRow_0 : decode cX4_holdsRow 0 = .ok (.aload_n 0, 1) := by decide +kernel
theorem dX4_holdsRow_1 : decode cX4_holdsRow 1 = .ok (.getfield 15, 3) := by decide +kernel
theorem dX4_holdsRow_4 : decode cX4_holdsRow 4 = .ok (.iconst (-1), 1) := by decide +kernel
theorem dX4_holdsRow_5 : decode cX4_holdsRow 5 = .ok (.if_icmp .eq 7, 3) := by decide +kernel
theorem dX4_holdsRow_8 : decode cX4_holdsRow 8 = .ok (.iconst 1, 1) := by decide +kernel
theorem dX4_holdsRow_9 : decode cX4_holdsRow 9 = .ok (.goto 4, 3) := by decide +kernel
theorem dX4_holdsRow_12 : decode cX4_holdsRow 12 = .ok (.iconst 0, 1) := by decide +kernel
theorem dX4_holdsRow_13 : decode cX4_holdsRow 13 = .ok (.ireturn, 1) := by decide +kernel
theorem dX4_tellsWhatItHolds_0 : decode cX4_tellsWhatItHolds 0 = .ok (.aload_n 0, 1) := by decide +kernel
theorem dX4_tellsWhatItHolds_1 : decode cX4_tellsWhatItHolds 1 = .ok (.invokevirtual 25, 3) := by decide +kernel
theorem dX4_tellsWhatItHolds_4 : decode cX4_tellsWhatItHolds 4 = .ok (.ifCond .eq 13, 3) := by decide +kernel
theorem dX4_tellsWhatItHolds_7 : decode cX4_tellsWhatItHolds 7 = .ok (.bipush 100, 2) := by decide +kernel
theorem dX4_tellsWhatItHolds_9 : decode cX4_tellsWhatItHolds 9 = .ok (.aload_n 0, 1) := by decide +kernel
theorem dX4_tellsWhatItHolds_10 : decode cX4_tellsWhatItHolds 10 = .ok (.getfield 15, 3) := by decide +kernel
theorem dX4_tellsWhatItHolds_13 : decode cX4_tellsWhatItHolds 13 = .ok (.iadd, 1) := by decide +kernel
theorem dX4_tellsWhatItHolds_14 : decode cX4_tellsWhatItHolds 14 = .ok (.goto 7, 3) := by decide +kernel
theorem dX4_tellsWhatItHolds_17 : decode cX4_tellsWhatItHolds 17 = .ok (.aload_n 0, 1) := by decide +kernel
theorem dX4_tellsWhatItHolds_18 : decode cX4_tellsWhatItHolds 18 = .ok (.getfield 19, 3) := by decide +kernel
theorem dX4_tellsWhatItHolds_21 : decode cX4_tellsWhatItHolds 21 = .ok (.ireturn, 1) := by decide +kernel
theorem dX4_hasElement_0 : decode cX4_hasElement 0 = .ok (.iload_n 1, 1) := by decide +kernel
theorem dX4_hasElement_1 : decode cX4_hasElement 1 = .ok (.ifCond .lt 15, 3) := by decide +kernel
theorem dX4_hasElement_4 : decode cX4_hasElement 4 = .ok (.iload_n 1, 1) := by decide +kernel
theorem dX4_hasElement_5 : decode cX4_hasElement 5 = .ok (.aload_n 0, 1) := by decide +kernel
theorem dX4_hasElement_6 : decode cX4_hasElement 6 = .ok (.getfield 22, 3) := by decide +kernel
theorem dX4_hasElement_9 : decode cX4_hasElement 9 = .ok (.if_icmp .ge 7, 3) := by decide +kernel
theorem dX4_hasElement_12 : decode cX4_hasElement 12 = .ok (.iconst 1, 1) := by decide +kernel
theorem dX4_hasElement_13 : decode cX4_hasElement 13 = .ok (.goto 4, 3) := by decide +kernel
theorem dX4_hasElement_16 : decode cX4_hasElement 16 = .ok (.iconst 0, 1) := by decide +kernel
theorem dX4_hasElement_17 : decode cX4_hasElement 17 = .ok (.ireturn, 1) := by decide +kernel
theorem dX4_elementAt_0 : decode cX4_elementAt 0 = .ok (.aload_n 0, 1) := by decide +kernel
theorem dX4_elementAt_1 : decode cX4_elementAt 1 = .ok (.iload_n 1, 1) := by decide +kernel
theorem dX4_elementAt_2 : decode cX4_elementAt 2 = .ok (.invokevirtual 29, 3) := by decide +kernel
theorem dX4_elementAt_5 : decode cX4_elementAt 5 = .ok (.ifCond .eq 12, 3) := by decide +kernel
theorem dX4_elementAt_8 : decode cX4_elementAt 8 = .ok (.aload_n 0, 1) := by decide +kernel
theorem dX4_elementAt_9 : decode cX4_elementAt 9 = .ok (.getfield 9, 3) := by decide +kernel
theorem dX4_elementAt_12 : decode cX4_elementAt 12 = .ok (.iload_n 1, 1) := by decide +kernel
theorem dX4_elementAt_13 : decode cX4_elementAt 13 = .ok (.laload, 1) := by decide +kernel
theorem dX4_elementAt_14 : decode cX4_elementAt 14 = .ok (.goto 4, 3) := by decide +kernel
theorem dX4_elementAt_17 : decode cX4_elementAt 17 = .ok (.lconst 0, 1) := by decide +kernel
theorem dX4_elementAt_18 : decode cX4_elementAt 18 = .ok (.lreturn, 1) := by decide +kernel
theorem dX4_put_0 : decode cX4_put 0 = .ok (.aload_n 0, 1) := by decide +kernel
theorem dX4_put_1 : decode cX4_put 1 = .ok (.iload_n 1, 1) := by decide +kernel
theorem dX4_put_2 : decode cX4_put 2 = .ok (.invokevirtual 29, 3) := by decide +kernel
theorem dX4_put_5 : decode cX4_put 5 = .ok (.ifCond .eq 14, 3) := by decide +kernel
theorem dX4_put_8 : decode cX4_put 8 = .ok (.aload_n 0, 1) := by decide +kernel
theorem dX4_put_9 : decode cX4_put 9 = .ok (.getfield 9, 3) := by decide +kernel
theorem dX4_put_12 : decode cX4_put 12 = .ok (.iload_n 1, 1) := by decide +kernel
theorem dX4_put_13 : decode cX4_put 13 = .ok (.aload_n 0, 1) := by decide +kernel
theorem dX4_put_14 : decode cX4_put 14 = .ok (.lload_n 2, 1) := by decide +kernel
theorem dX4_put_15 : decode cX4_put 15 = .ok (.invokevirtual 33, 3) := by decide +kernel
theorem dX4_put_18 : decode cX4_put 18 = .ok (.lastore, 1) := by decide +kernel
theorem dX4_put_19 : decode cX4_put 19 = .ok (.return_, 1) := by decide +kernel
theorem dX4_lowestBits_0 : decode cX4_lowestBits 0 = .ok (.aload_n 0, 1) := by decide +kernel
theorem dX4_lowestBits_1 : decode cX4_lowestBits 1 = .ok (.getfield 15, 3) := by decide +kernel
theorem dX4_lowestBits_4 : decode cX4_lowestBits 4 = .ok (.tableswitch 42 0 2 #[28, 33, 38], 28) := by decide +kernel
theorem dX4_lowestBits_32 : decode cX4_lowestBits 32 = .ok (.lload_n 1, 1) := by decide +kernel
theorem dX4_lowestBits_33 : decode cX4_lowestBits 33 = .ok (.l2i, 1) := by decide +kernel
theorem dX4_lowestBits_34 : decode cX4_lowestBits 34 = .ok (.i2b, 1) := by decide +kernel
theorem dX4_lowestBits_35 : decode cX4_lowestBits 35 = .ok (.i2l, 1) := by decide +kernel
theorem dX4_lowestBits_36 : decode cX4_lowestBits 36 = .ok (.lreturn, 1) := by decide +kernel
theorem dX4_lowestBits_37 : decode cX4_lowestBits 37 = .ok (.lload_n 1, 1) := by decide +kernel
theorem dX4_lowestBits_38 : decode cX4_lowestBits 38 = .ok (.l2i, 1) := by decide +kernel
theorem dX4_lowestBits_39 : decode cX4_lowestBits 39 = .ok (.i2s, 1) := by decide +kernel
theorem dX4_lowestBits_40 : decode cX4_lowestBits 40 = .ok (.i2l, 1) := by decide +kernel
theorem dX4_lowestBits_41 : decode cX4_lowestBits 41 = .ok (.lreturn, 1) := by decide +kernel
theorem dX4_lowestBits_42 : decode cX4_lowestBits 42 = .ok (.lload_n 1, 1) := by decide +kernel
theorem dX4_lowestBits_43 : decode cX4_lowestBits 43 = .ok (.l2i, 1) := by decide +kernel
theorem dX4_lowestBits_44 : decode cX4_lowestBits 44 = .ok (.i2l, 1) := by decide +kernel
theorem dX4_lowestBits_45 : decode cX4_lowestBits 45 = .ok (.lreturn, 1) := by decide +kernel
theorem dX4_lowestBits_46 : decode cX4_lowestBits 46 = .ok (.lload_n 1, 1) := by decide +kernel
theorem dX4_lowestBits_47 : decode cX4_lowestBits 47 = .ok (.lreturn, 1) := by decide +kernel
theorem dX5_init_0 : decode cX5_init 0 = .ok (.aload_n 0, 1) := by decide +kernel
theorem dX5_init_1 : decode cX5_init 1 = .ok (.invokespecial 3, 3) := by decide +kernel
theorem dX5_init_4 : decode cX5_init 4 = .ok (.aload_n 0, 1) := by decide +kernel
theorem dX5_init_5 : decode cX5_init 5 = .ok (.bipush 6, 2) := by decide +kernel
theorem dX5_init_7 : decode cX5_init 7 = .ok (.anewarray 9, 3) := by decide +kernel
theorem dX5_init_10 : decode cX5_init 10 = .ok (.putfield 11, 3) := by decide +kernel
theorem dX5_init_13 : decode cX5_init 13 = .ok (.aload_n 0, 1) := by decide +kernel
theorem dX5_init_14 : decode cX5_init 14 = .ok (.bipush 10, 2) := by decide +kernel
theorem dX5_init_16 : decode cX5_init 16 = .ok (.newarray .int, 2) := by decide +kernel
theorem dX5_init_18 : decode cX5_init 18 = .ok (.putfield 17, 3) := by decide +kernel
theorem dX5_init_21 : decode cX5_init 21 = .ok (.aload_n 0, 1) := by decide +kernel
theorem dX5_init_22 : decode cX5_init 22 = .ok (.bipush 60, 2) := by decide +kernel
theorem dX5_init_24 : decode cX5_init 24 = .ok (.putfield 21, 3) := by decide +kernel
theorem dX5_init_27 : decode cX5_init 27 = .ok (.aload_n 0, 1) := by decide +kernel
theorem dX5_init_28 : decode cX5_init 28 = .ok (.bipush 20, 2) := by decide +kernel
theorem dX5_init_30 : decode cX5_init 30 = .ok (.putfield 25, 3) := by decide +kernel
theorem dX5_init_33 : decode cX5_init 33 = .ok (.aload_n 0, 1) := by decide +kernel
theorem dX5_init_34 : decode cX5_init 34 = .ok (.sipush 1000, 3) := by decide +kernel
theorem dX5_init_37 : decode cX5_init 37 = .ok (.putfield 28, 3) := by decide +kernel
theorem dX5_init_40 : decode cX5_init 40 = .ok (.aload_n 0, 1) := by decide +kernel
theorem dX5_init_41 : decode cX5_init 41 = .ok (.iconst 1, 1) := by decide +kernel
theorem dX5_init_42 : decode cX5_init 42 = .ok (.putfield 31, 3) := by decide +kernel
theorem dX5_init_45 : decode cX5_init 45 = .ok (.iconst 0, 1) := by decide +kernel
theorem dX5_init_46 : decode cX5_init 46 = .ok (.istore_n 1, 1) := by decide +kernel
theorem dX5_init_47 : decode cX5_init 47 = .ok (.iload_n 1, 1) := by decide +kernel
theorem dX5_init_48 : decode cX5_init 48 = .ok (.bipush 6, 2) := by decide +kernel
theorem dX5_init_50 : decode cX5_init 50 = .ok (.if_icmp .ge 22, 3) := by decide +kernel
theorem dX5_init_53 : decode cX5_init 53 = .ok (.aload_n 0, 1) := by decide +kernel
theorem dX5_init_54 : decode cX5_init 54 = .ok (.getfield 11, 3) := by decide +kernel
theorem dX5_init_57 : decode cX5_init 57 = .ok (.iload_n 1, 1) := by decide +kernel
theorem dX5_init_58 : decode cX5_init 58 = .ok (.new 9, 3) := by decide +kernel
theorem dX5_init_61 : decode cX5_init 61 = .ok (.dup, 1) := by decide +kernel
theorem dX5_init_62 : decode cX5_init 62 = .ok (.invokespecial 34, 3) := by decide +kernel
theorem dX5_init_65 : decode cX5_init 65 = .ok (.aastore, 1) := by decide +kernel
theorem dX5_init_66 : decode cX5_init 66 = .ok (.iinc 1 1, 3) := by decide +kernel
theorem dX5_init_69 : decode cX5_init 69 = .ok (.goto (-22), 3) := by decide +kernel
theorem dX5_init_72 : decode cX5_init 72 = .ok (.return_, 1) := by decide +kernel
theorem dX5_become_0 : decode cX5_become 0 = .ok (.iconst 0, 1) := by decide +kernel
theorem dX5_become_1 : decode cX5_become 1 = .ok (.istore_n 2, 1) := by decide +kernel
theorem dX5_become_2 : decode cX5_become 2 = .ok (.iload_n 2, 1) := by decide +kernel
theorem dX5_become_3 : decode cX5_become 3 = .ok (.bipush 6, 2) := by decide +kernel
theorem dX5_become_5 : decode cX5_become 5 = .ok (.if_icmp .ge 24, 3) := by decide +kernel
theorem dX5_become_8 : decode cX5_become 8 = .ok (.aload_n 0, 1) := by decide +kernel
theorem dX5_become_9 : decode cX5_become 9 = .ok (.getfield 11, 3) := by decide +kernel
theorem dX5_become_12 : decode cX5_become 12 = .ok (.iload_n 2, 1) := by decide +kernel
theorem dX5_become_13 : decode cX5_become 13 = .ok (.aaload, 1) := by decide +kernel
theorem dX5_become_14 : decode cX5_become 14 = .ok (.aload_n 1, 1) := by decide +kernel
theorem dX5_become_15 : decode cX5_become 15 = .ok (.getfield 11, 3) := by decide +kernel
theorem dX5_become_18 : decode cX5_become 18 = .ok (.iload_n 2, 1) := by decide +kernel
theorem dX5_become_19 : decode cX5_become 19 = .ok (.aaload, 1) := by decide +kernel
theorem dX5_become_20 : decode cX5_become 20 = .ok (.invokevirtual 35, 3) := by decide +kernel
theorem dX5_become_23 : decode cX5_become 23 = .ok (.iinc 2 1, 3) := by decide +kernel
theorem dX5_become_26 : decode cX5_become 26 = .ok (.goto (-24), 3) := by decide +kernel
theorem dX5_become_29 : decode cX5_become 29 = .ok (.aload_n 1, 1) := by decide +kernel
theorem dX5_become_30 : decode cX5_become 30 = .ok (.getfield 17, 3) := by decide +kernel
theorem dX5_become_33 : decode cX5_become 33 = .ok (.iconst 0, 1) := by decide +kernel
theorem dX5_become_34 : decode cX5_become 34 = .ok (.aload_n 0, 1) := by decide +kernel
theorem dX5_become_35 : decode cX5_become 35 = .ok (.getfield 17, 3) := by decide +kernel
theorem dX5_become_38 : decode cX5_become 38 = .ok (.iconst 0, 1) := by decide +kernel
theorem dX5_become_39 : decode cX5_become 39 = .ok (.bipush 10, 2) := by decide +kernel
theorem dX5_become_41 : decode cX5_become 41 = .ok (.invokestatic 39, 3) := by decide +kernel
theorem dX5_become_44 : decode cX5_become 44 = .ok (.aload_n 0, 1) := by decide +kernel
theorem dX5_become_45 : decode cX5_become 45 = .ok (.aload_n 1, 1) := by decide +kernel
theorem dX5_become_46 : decode cX5_become 46 = .ok (.getfield 45, 3) := by decide +kernel
theorem dX5_become_49 : decode cX5_become 49 = .ok (.putfield 45, 3) := by decide +kernel
theorem dX5_become_52 : decode cX5_become 52 = .ok (.aload_n 0, 1) := by decide +kernel
theorem dX5_become_53 : decode cX5_become 53 = .ok (.aload_n 1, 1) := by decide +kernel
theorem dX5_become_54 : decode cX5_become 54 = .ok (.getfield 21, 3) := by decide +kernel
theorem dX5_become_57 : decode cX5_become 57 = .ok (.putfield 21, 3) := by decide +kernel
theorem dX5_become_60 : decode cX5_become 60 = .ok (.aload_n 0, 1) := by decide +kernel
theorem dX5_become_61 : decode cX5_become 61 = .ok (.aload_n 1, 1) := by decide +kernel
theorem dX5_become_62 : decode cX5_become 62 = .ok (.getfield 25, 3) := by decide +kernel
theorem dX5_become_65 : decode cX5_become 65 = .ok (.putfield 25, 3) := by decide +kernel
theorem dX5_become_68 : decode cX5_become 68 = .ok (.aload_n 0, 1) := by decide +kernel
theorem dX5_become_69 : decode cX5_become 69 = .ok (.aload_n 1, 1) := by decide +kernel
theorem dX5_become_70 : decode cX5_become 70 = .ok (.getfield 28, 3) := by decide +kernel
theorem dX5_become_73 : decode cX5_become 73 = .ok (.putfield 28, 3) := by decide +kernel
theorem dX5_become_76 : decode cX5_become 76 = .ok (.aload_n 0, 1) := by decide +kernel
theorem dX5_become_77 : decode cX5_become 77 = .ok (.aload_n 1, 1) := by decide +kernel
theorem dX5_become_78 : decode cX5_become 78 = .ok (.getfield 48, 3) := by decide +kernel
theorem dX5_become_81 : decode cX5_become 81 = .ok (.putfield 48, 3) := by decide +kernel
theorem dX5_become_84 : decode cX5_become 84 = .ok (.aload_n 0, 1) := by decide +kernel
theorem dX5_become_85 : decode cX5_become 85 = .ok (.aload_n 1, 1) := by decide +kernel
theorem dX5_become_86 : decode cX5_become 86 = .ok (.getfield 51, 3) := by decide +kernel
theorem dX5_become_89 : decode cX5_become 89 = .ok (.putfield 51, 3) := by decide +kernel
theorem dX5_become_92 : decode cX5_become 92 = .ok (.aload_n 0, 1) := by decide +kernel
theorem dX5_become_93 : decode cX5_become 93 = .ok (.aload_n 1, 1) := by decide +kernel
theorem dX5_become_94 : decode cX5_become 94 = .ok (.getfield 54, 3) := by decide +kernel
theorem dX5_become_97 : decode cX5_become 97 = .ok (.putfield 54, 3) := by decide +kernel
theorem dX5_become_100 : decode cX5_become 100 = .ok (.aload_n 0, 1) := by decide +kernel
theorem dX5_become_101 : decode cX5_become 101 = .ok (.aload_n 1, 1) := by decide +kernel
theorem dX5_become_102 : decode cX5_become 102 = .ok (.getfield 31, 3) := by decide +kernel
theorem dX5_become_105 : decode cX5_become 105 = .ok (.putfield 31, 3) := by decide +kernel
theorem dX5_become_108 : decode cX5_become 108 = .ok (.return_, 1) := by decide +kernel
theorem dX5_hasBiscuit_0 : decode cX5_hasBiscuit 0 = .ok (.iload_n 1, 1) := by decide +kernel
theorem dX5_hasBiscuit_1 : decode cX5_hasBiscuit 1 = .ok (.ifCond .lt 15, 3) := by decide +kernel
theorem dX5_hasBiscuit_4 : decode cX5_hasBiscuit 4 = .ok (.iload_n 1, 1) := by decide +kernel
theorem dX5_hasBiscuit_5 : decode cX5_hasBiscuit 5 = .ok (.aload_n 0, 1) := by decide +kernel
theorem dX5_hasBiscuit_6 : decode cX5_hasBiscuit 6 = .ok (.getfield 45, 3) := by decide +kernel
theorem dX5_hasBiscuit_9 : decode cX5_hasBiscuit 9 = .ok (.if_icmp .ge 7, 3) := by decide +kernel
theorem dX5_hasBiscuit_12 : decode cX5_hasBiscuit 12 = .ok (.iconst 1, 1) := by decide +kernel
theorem dX5_hasBiscuit_13 : decode cX5_hasBiscuit 13 = .ok (.goto 4, 3) := by decide +kernel
theorem dX5_hasBiscuit_16 : decode cX5_hasBiscuit 16 = .ok (.iconst 0, 1) := by decide +kernel
theorem dX5_hasBiscuit_17 : decode cX5_hasBiscuit 17 = .ok (.ireturn, 1) := by decide +kernel
theorem dX5_hasRoom_0 : decode cX5_hasRoom 0 = .ok (.aload_n 0, 1) := by decide +kernel
theorem dX5_hasRoom_1 : decode cX5_hasRoom 1 = .ok (.getfield 45, 3) := by decide +kernel
theorem dX5_hasRoom_4 : decode cX5_hasRoom 4 = .ok (.bipush 6, 2) := by decide +kernel
theorem dX5_hasRoom_6 : decode cX5_hasRoom 6 = .ok (.if_icmp .ge 7, 3) := by decide +kernel
theorem dX5_hasRoom_9 : decode cX5_hasRoom 9 = .ok (.iconst 1, 1) := by decide +kernel
theorem dX5_hasRoom_10 : decode cX5_hasRoom 10 = .ok (.goto 4, 3) := by decide +kernel
theorem dX5_hasRoom_13 : decode cX5_hasRoom 13 = .ok (.iconst 0, 1) := by decide +kernel
theorem dX5_hasRoom_14 : decode cX5_hasRoom 14 = .ok (.ireturn, 1) := by decide +kernel
theorem dX5_addBiscuit_0 : decode cX5_addBiscuit 0 = .ok (.aload_n 0, 1) := by decide +kernel
theorem dX5_addBiscuit_1 : decode cX5_addBiscuit 1 = .ok (.invokevirtual 57, 3) := by decide +kernel
theorem dX5_addBiscuit_4 : decode cX5_addBiscuit 4 = .ok (.ifCond .ne 5, 3) := by decide +kernel
theorem dX5_addBiscuit_7 : decode cX5_addBiscuit 7 = .ok (.iconst (-1), 1) := by decide +kernel
theorem dX5_addBiscuit_8 : decode cX5_addBiscuit 8 = .ok (.ireturn, 1) := by decide +kernel
theorem dX5_addBiscuit_9 : decode cX5_addBiscuit 9 = .ok (.aload_n 0, 1) := by decide +kernel
theorem dX5_addBiscuit_10 : decode cX5_addBiscuit 10 = .ok (.getfield 11, 3) := by decide +kernel
theorem dX5_addBiscuit_13 : decode cX5_addBiscuit 13 = .ok (.aload_n 0, 1) := by decide +kernel
theorem dX5_addBiscuit_14 : decode cX5_addBiscuit 14 = .ok (.getfield 45, 3) := by decide +kernel
theorem dX5_addBiscuit_17 : decode cX5_addBiscuit 17 = .ok (.aaload, 1) := by decide +kernel
theorem dX5_addBiscuit_18 : decode cX5_addBiscuit 18 = .ok (.iload_n 1, 1) := by decide +kernel
theorem dX5_addBiscuit_19 : decode cX5_addBiscuit 19 = .ok (.iload_n 2, 1) := by decide +kernel
theorem dX5_addBiscuit_20 : decode cX5_addBiscuit 20 = .ok (.iload_n 3, 1) := by decide +kernel
theorem dX5_addBiscuit_21 : decode cX5_addBiscuit 21 = .ok (.invokevirtual 61, 3) := by decide +kernel
theorem dX5_addBiscuit_24 : decode cX5_addBiscuit 24 = .ok (.aload_n 0, 1) := by decide +kernel
theorem dX5_addBiscuit_25 : decode cX5_addBiscuit 25 = .ok (.dup, 1) := by decide +kernel
theorem dX5_addBiscuit_26 : decode cX5_addBiscuit 26 = .ok (.getfield 45, 3) := by decide +kernel
theorem dX5_addBiscuit_29 : decode cX5_addBiscuit 29 = .ok (.iconst 1, 1) := by decide +kernel
theorem dX5_addBiscuit_30 : decode cX5_addBiscuit 30 = .ok (.iadd, 1) := by decide +kernel
theorem dX5_addBiscuit_31 : decode cX5_addBiscuit 31 = .ok (.putfield 45, 3) := by decide +kernel
theorem dX5_addBiscuit_34 : decode cX5_addBiscuit 34 = .ok (.aload_n 0, 1) := by decide +kernel
theorem dX5_addBiscuit_35 : decode cX5_addBiscuit 35 = .ok (.getfield 45, 3) := by decide +kernel
theorem dX5_addBiscuit_38 : decode cX5_addBiscuit 38 = .ok (.iconst 1, 1) := by decide +kernel
theorem dX5_addBiscuit_39 : decode cX5_addBiscuit 39 = .ok (.isub, 1) := by decide +kernel
theorem dX5_addBiscuit_40 : decode cX5_addBiscuit 40 = .ok (.ireturn, 1) := by decide +kernel
theorem dX5_cellsOfAll_0 : decode cX5_cellsOfAll 0 = .ok (.iconst 0, 1) := by decide +kernel
theorem dX5_cellsOfAll_1 : decode cX5_cellsOfAll 1 = .ok (.istore_n 1, 1) := by decide +kernel
theorem dX5_cellsOfAll_2 : decode cX5_cellsOfAll 2 = .ok (.iconst 0, 1) := by decide +kernel
theorem dX5_cellsOfAll_3 : decode cX5_cellsOfAll 3 = .ok (.istore_n 2, 1) := by decide +kernel
theorem dX5_cellsOfAll_4 : decode cX5_cellsOfAll 4 = .ok (.iload_n 2, 1) := by decide +kernel
theorem dX5_cellsOfAll_5 : decode cX5_cellsOfAll 5 = .ok (.aload_n 0, 1) := by decide +kernel
theorem dX5_cellsOfAll_6 : decode cX5_cellsOfAll 6 = .ok (.getfield 45, 3) := by decide +kernel
theorem dX5_cellsOfAll_9 : decode cX5_cellsOfAll 9 = .ok (.if_icmp .ge 21, 3) := by decide +kernel
theorem dX5_cellsOfAll_12 : decode cX5_cellsOfAll 12 = .ok (.iload_n 1, 1) := by decide +kernel
theorem dX5_cellsOfAll_13 : decode cX5_cellsOfAll 13 = .ok (.aload_n 0, 1) := by decide +kernel
theorem dX5_cellsOfAll_14 : decode cX5_cellsOfAll 14 = .ok (.getfield 11, 3) := by decide +kernel
theorem dX5_cellsOfAll_17 : decode cX5_cellsOfAll 17 = .ok (.iload_n 2, 1) := by decide +kernel
theorem dX5_cellsOfAll_18 : decode cX5_cellsOfAll 18 = .ok (.aaload, 1) := by decide +kernel
theorem dX5_cellsOfAll_19 : decode cX5_cellsOfAll 19 = .ok (.getfield 65, 3) := by decide +kernel
theorem dX5_cellsOfAll_22 : decode cX5_cellsOfAll 22 = .ok (.iadd, 1) := by decide +kernel
theorem dX5_cellsOfAll_23 : decode cX5_cellsOfAll 23 = .ok (.istore_n 1, 1) := by decide +kernel
theorem dX5_cellsOfAll_24 : decode cX5_cellsOfAll 24 = .ok (.iinc 2 1, 3) := by decide +kernel
theorem dX5_cellsOfAll_27 : decode cX5_cellsOfAll 27 = .ok (.goto (-23), 3) := by decide +kernel
theorem dX5_cellsOfAll_30 : decode cX5_cellsOfAll 30 = .ok (.iload_n 1, 1) := by decide +kernel
theorem dX5_cellsOfAll_31 : decode cX5_cellsOfAll 31 = .ok (.ireturn, 1) := by decide +kernel
theorem dX5_worthOfCells_0 : decode cX5_worthOfCells 0 = .ok (.iconst 0, 1) := by decide +kernel
theorem dX5_worthOfCells_1 : decode cX5_worthOfCells 1 = .ok (.istore_n 2, 1) := by decide +kernel
theorem dX5_worthOfCells_2 : decode cX5_worthOfCells 2 = .ok (.iconst 0, 1) := by decide +kernel
theorem dX5_worthOfCells_3 : decode cX5_worthOfCells 3 = .ok (.istore_n 3, 1) := by decide +kernel
theorem dX5_worthOfCells_4 : decode cX5_worthOfCells 4 = .ok (.iload_n 3, 1) := by decide +kernel
theorem dX5_worthOfCells_5 : decode cX5_worthOfCells 5 = .ok (.aload_n 1, 1) := by decide +kernel
theorem dX5_worthOfCells_6 : decode cX5_worthOfCells 6 = .ok (.getfield 65, 3) := by decide +kernel
theorem dX5_worthOfCells_9 : decode cX5_worthOfCells 9 = .ok (.if_icmp .ge 41, 3) := by decide +kernel
theorem dX5_worthOfCells_12 : decode cX5_worthOfCells 12 = .ok (.aload_n 1, 1) := by decide +kernel
theorem dX5_worthOfCells_13 : decode cX5_worthOfCells 13 = .ok (.getfield 68, 3) := by decide +kernel
theorem dX5_worthOfCells_16 : decode cX5_worthOfCells 16 = .ok (.iload_n 3, 1) := by decide +kernel
theorem dX5_worthOfCells_17 : decode cX5_worthOfCells 17 = .ok (.iaload, 1) := by decide +kernel
theorem dX5_worthOfCells_18 : decode cX5_worthOfCells 18 = .ok (.bipush 10, 2) := by decide +kernel
theorem dX5_worthOfCells_20 : decode cX5_worthOfCells 20 = .ok (.idiv, 1) := by decide +kernel
theorem dX5_worthOfCells_21 : decode cX5_worthOfCells 21 = .ok (.istore 4, 2) := by decide +kernel
theorem dX5_worthOfCells_23 : decode cX5_worthOfCells 23 = .ok (.iload 4, 2) := by decide +kernel
theorem dX5_worthOfCells_25 : decode cX5_worthOfCells 25 = .ok (.iconst 0, 1) := by decide +kernel
theorem dX5_worthOfCells_26 : decode cX5_worthOfCells 26 = .ok (.bipush 9, 2) := by decide +kernel
theorem dX5_worthOfCells_28 : decode cX5_worthOfCells 28 = .ok (.invokestatic 71, 3) := by decide +kernel
theorem dX5_worthOfCells_31 : decode cX5_worthOfCells 31 = .ok (.ifCond .eq 13, 3) := by decide +kernel
theorem dX5_worthOfCells_34 : decode cX5_worthOfCells 34 = .ok (.iload_n 2, 1) := by decide +kernel
theorem dX5_worthOfCells_35 : decode cX5_worthOfCells 35 = .ok (.aload_n 0, 1) := by decide +kernel
theorem dX5_worthOfCells_36 : decode cX5_worthOfCells 36 = .ok (.getfield 17, 3) := by decide +kernel
theorem dX5_worthOfCells_39 : decode cX5_worthOfCells 39 = .ok (.iload 4, 2) := by decide +kernel
theorem dX5_worthOfCells_41 : decode cX5_worthOfCells 41 = .ok (.iaload, 1) := by decide +kernel
theorem dX5_worthOfCells_42 : decode cX5_worthOfCells 42 = .ok (.iadd, 1) := by decide +kernel
theorem dX5_worthOfCells_43 : decode cX5_worthOfCells 43 = .ok (.istore_n 2, 1) := by decide +kernel
theorem dX5_worthOfCells_44 : decode cX5_worthOfCells 44 = .ok (.iinc 3 1, 3) := by decide +kernel
theorem dX5_worthOfCells_47 : decode cX5_worthOfCells 47 = .ok (.goto (-43), 3) := by decide +kernel
theorem dX5_worthOfCells_50 : decode cX5_worthOfCells 50 = .ok (.iload_n 2, 1) := by decide +kernel
theorem dX5_worthOfCells_51 : decode cX5_worthOfCells 51 = .ok (.ireturn, 1) := by decide +kernel
theorem dX5_heatAfter_0 : decode cX5_heatAfter 0 = .ok (.aload_n 0, 1) := by decide +kernel
theorem dX5_heatAfter_1 : decode cX5_heatAfter 1 = .ok (.getfield 25, 3) := by decide +kernel
theorem dX5_heatAfter_4 : decode cX5_heatAfter 4 = .ok (.ifCond .le 27, 3) := by decide +kernel
theorem dX5_heatAfter_7 : decode cX5_heatAfter 7 = .ok (.aload_n 0, 1) := by decide +kernel
theorem dX5_heatAfter_8 : decode cX5_heatAfter 8 = .ok (.getfield 54, 3) := by decide +kernel
theorem dX5_heatAfter_11 : decode cX5_heatAfter 11 = .ok (.iload_n 1, 1) := by decide +kernel
theorem dX5_heatAfter_12 : decode cX5_heatAfter 12 = .ok (.iadd, 1) := by decide +kernel
theorem dX5_heatAfter_13 : decode cX5_heatAfter 13 = .ok (.aload_n 0, 1) := by decide +kernel
theorem dX5_heatAfter_14 : decode cX5_heatAfter 14 = .ok (.getfield 25, 3) := by decide +kernel
theorem dX5_heatAfter_17 : decode cX5_heatAfter 17 = .ok (.idiv, 1) := by decide +kernel
theorem dX5_heatAfter_18 : decode cX5_heatAfter 18 = .ok (.aload_n 0, 1) := by decide +kernel
theorem dX5_heatAfter_19 : decode cX5_heatAfter 19 = .ok (.getfield 54, 3) := by decide +kernel
theorem dX5_heatAfter_22 : decode cX5_heatAfter 22 = .ok (.aload_n 0, 1) := by decide +kernel
theorem dX5_heatAfter_23 : decode cX5_heatAfter 23 = .ok (.getfield 25, 3) := by decide +kernel
theorem dX5_heatAfter_26 : decode cX5_heatAfter 26 = .ok (.idiv, 1) := by decide +kernel
theorem dX5_heatAfter_27 : decode cX5_heatAfter 27 = .ok (.isub, 1) := by decide +kernel
theorem dX5_heatAfter_28 : decode cX5_heatAfter 28 = .ok (.goto 4, 3) := by decide +kernel
theorem dX5_heatAfter_31 : decode cX5_heatAfter 31 = .ok (.iconst 0, 1) := by decide +kernel
theorem dX5_heatAfter_32 : decode cX5_heatAfter 32 = .ok (.istore_n 2, 1) := by decide +kernel
theorem dX5_heatAfter_33 : decode cX5_heatAfter 33 = .ok (.iconst 0, 1) := by decide +kernel
theorem dX5_heatAfter_34 : decode cX5_heatAfter 34 = .ok (.aload_n 0, 1) := by decide +kernel
theorem dX5_heatAfter_35 : decode cX5_heatAfter 35 = .ok (.getfield 21, 3) := by decide +kernel
theorem dX5_heatAfter_38 : decode cX5_heatAfter 38 = .ok (.iload_n 2, 1) := by decide +kernel
theorem dX5_heatAfter_39 : decode cX5_heatAfter 39 = .ok (.isub, 1) := by decide +kernel
theorem dX5_heatAfter_40 : decode cX5_heatAfter 40 = .ok (.invokestatic 75, 3) := by decide +kernel
theorem dX5_heatAfter_43 : decode cX5_heatAfter 43 = .ok (.ireturn, 1) := by decide +kernel
theorem dX5_pass_0 : decode cX5_pass 0 = .ok (.aload_n 0, 1) := by decide +kernel
theorem dX5_pass_1 : decode cX5_pass 1 = .ok (.aload_n 0, 1) := by decide +kernel
theorem dX5_pass_2 : decode cX5_pass 2 = .ok (.iload_n 1, 1) := by decide +kernel
theorem dX5_pass_3 : decode cX5_pass 3 = .ok (.invokevirtual 81, 3) := by decide +kernel
theorem dX5_pass_6 : decode cX5_pass 6 = .ok (.putfield 21, 3) := by decide +kernel
theorem dX5_pass_9 : decode cX5_pass 9 = .ok (.aload_n 0, 1) := by decide +kernel
theorem dX5_pass_10 : decode cX5_pass 10 = .ok (.dup, 1) := by decide +kernel
theorem dX5_pass_11 : decode cX5_pass 11 = .ok (.getfield 54, 3) := by decide +kernel
theorem dX5_pass_14 : decode cX5_pass 14 = .ok (.iload_n 1, 1) := by decide +kernel
theorem dX5_pass_15 : decode cX5_pass 15 = .ok (.iadd, 1) := by decide +kernel
theorem dX5_pass_16 : decode cX5_pass 16 = .ok (.putfield 54, 3) := by decide +kernel
theorem dX5_pass_19 : decode cX5_pass 19 = .ok (.return_, 1) := by decide +kernel
theorem dX5_dipInTruth_0 : decode cX5_dipInTruth 0 = .ok (.aload_n 0, 1) := by decide +kernel
theorem dX5_dipInTruth_1 : decode cX5_dipInTruth 1 = .ok (.iload_n 1, 1) := by decide +kernel
theorem dX5_dipInTruth_2 : decode cX5_dipInTruth 2 = .ok (.invokevirtual 85, 3) := by decide +kernel
theorem dX5_dipInTruth_5 : decode cX5_dipInTruth 5 = .ok (.ifCond .ne 5, 3) := by decide +kernel
theorem dX5_dipInTruth_8 : decode cX5_dipInTruth 8 = .ok (.iconst 0, 1) := by decide +kernel
theorem dX5_dipInTruth_9 : decode cX5_dipInTruth 9 = .ok (.ireturn, 1) := by decide +kernel
theorem dX5_dipInTruth_10 : decode cX5_dipInTruth 10 = .ok (.aload 4, 2) := by decide +kernel
theorem dX5_dipInTruth_12 : decode cX5_dipInTruth 12 = .ok (.aload_n 0, 1) := by decide +kernel
theorem dX5_dipInTruth_13 : decode cX5_dipInTruth 13 = .ok (.getfield 11, 3) := by decide +kernel
theorem dX5_dipInTruth_16 : decode cX5_dipInTruth 16 = .ok (.iload_n 1, 1) := by decide +kernel
theorem dX5_dipInTruth_17 : decode cX5_dipInTruth 17 = .ok (.aaload, 1) := by decide +kernel
theorem dX5_dipInTruth_18 : decode cX5_dipInTruth 18 = .ok (.aload_n 0, 1) := by decide +kernel
theorem dX5_dipInTruth_19 : decode cX5_dipInTruth 19 = .ok (.getfield 21, 3) := by decide +kernel
theorem dX5_dipInTruth_22 : decode cX5_dipInTruth 22 = .ok (.invokevirtual 89, 3) := by decide +kernel
theorem dX5_dipInTruth_25 : decode cX5_dipInTruth 25 = .ok (.aload 4, 2) := by decide +kernel
theorem dX5_dipInTruth_27 : decode cX5_dipInTruth 27 = .ok (.iload_n 2, 1) := by decide +kernel
theorem dX5_dipInTruth_28 : decode cX5_dipInTruth 28 = .ok (.iload_n 3, 1) := by decide +kernel
theorem dX5_dipInTruth_29 : decode cX5_dipInTruth 29 = .ok (.invokevirtual 95, 3) := by decide +kernel
theorem dX5_dipInTruth_32 : decode cX5_dipInTruth 32 = .ok (.aload_n 0, 1) := by decide +kernel
theorem dX5_dipInTruth_33 : decode cX5_dipInTruth 33 = .ok (.getfield 11, 3) := by decide +kernel
theorem dX5_dipInTruth_36 : decode cX5_dipInTruth 36 = .ok (.iload_n 1, 1) := by decide +kernel
theorem dX5_dipInTruth_37 : decode cX5_dipInTruth 37 = .ok (.aaload, 1) := by decide +kernel
theorem dX5_dipInTruth_38 : decode cX5_dipInTruth 38 = .ok (.aload 4, 2) := by decide +kernel
theorem dX5_dipInTruth_40 : decode cX5_dipInTruth 40 = .ok (.getfield 99, 3) := by decide +kernel
theorem dX5_dipInTruth_43 : decode cX5_dipInTruth 43 = .ok (.invokevirtual 35, 3) := by decide +kernel
theorem dX5_dipInTruth_46 : decode cX5_dipInTruth 46 = .ok (.aload_n 0, 1) := by decide +kernel
theorem dX5_dipInTruth_47 : decode cX5_dipInTruth 47 = .ok (.iconst 0, 1) := by decide +kernel
theorem dX5_dipInTruth_48 : decode cX5_dipInTruth 48 = .ok (.aload_n 0, 1) := by decide +kernel
theorem dX5_dipInTruth_49 : decode cX5_dipInTruth 49 = .ok (.getfield 28, 3) := by decide +kernel
theorem dX5_dipInTruth_52 : decode cX5_dipInTruth 52 = .ok (.aload 4, 2) := by decide +kernel
theorem dX5_dipInTruth_54 : decode cX5_dipInTruth 54 = .ok (.getfield 103, 3) := by decide +kernel
theorem dX5_dipInTruth_57 : decode cX5_dipInTruth 57 = .ok (.isub, 1) := by decide +kernel
theorem dX5_dipInTruth_58 : decode cX5_dipInTruth 58 = .ok (.invokestatic 75, 3) := by decide +kernel
theorem dX5_dipInTruth_61 : decode cX5_dipInTruth 61 = .ok (.putfield 28, 3) := by decide +kernel
theorem dX5_dipInTruth_64 : decode cX5_dipInTruth 64 = .ok (.aload_n 0, 1) := by decide +kernel
theorem dX5_dipInTruth_65 : decode cX5_dipInTruth 65 = .ok (.dup, 1) := by decide +kernel
theorem dX5_dipInTruth_66 : decode cX5_dipInTruth 66 = .ok (.getfield 48, 3) := by decide +kernel
theorem dX5_dipInTruth_69 : decode cX5_dipInTruth 69 = .ok (.aload 4, 2) := by decide +kernel
theorem dX5_dipInTruth_71 : decode cX5_dipInTruth 71 = .ok (.getfield 106, 3) := by decide +kernel
theorem dX5_dipInTruth_74 : decode cX5_dipInTruth 74 = .ok (.iadd, 1) := by decide +kernel
theorem dX5_dipInTruth_75 : decode cX5_dipInTruth 75 = .ok (.putfield 48, 3) := by decide +kernel
theorem dX5_dipInTruth_78 : decode cX5_dipInTruth 78 = .ok (.aload_n 0, 1) := by decide +kernel
theorem dX5_dipInTruth_79 : decode cX5_dipInTruth 79 = .ok (.iload_n 3, 1) := by decide +kernel
theorem dX5_dipInTruth_80 : decode cX5_dipInTruth 80 = .ok (.invokevirtual 109, 3) := by decide +kernel
theorem dX5_dipInTruth_83 : decode cX5_dipInTruth 83 = .ok (.aload 4, 2) := by decide +kernel
theorem dX5_dipInTruth_85 : decode cX5_dipInTruth 85 = .ok (.getfield 106, 3) := by decide +kernel
theorem dX5_dipInTruth_88 : decode cX5_dipInTruth 88 = .ok (.ireturn, 1) := by decide +kernel
theorem dX5_carryInTruth_0 : decode cX5_carryInTruth 0 = .ok (.aload_n 0, 1) := by decide +kernel
theorem dX5_carryInTruth_1 : decode cX5_carryInTruth 1 = .ok (.iload_n 1, 1) := by decide +kernel
theorem dX5_carryInTruth_2 : decode cX5_carryInTruth 2 = .ok (.invokevirtual 85, 3) := by decide +kernel
theorem dX5_carryInTruth_5 : decode cX5_carryInTruth 5 = .ok (.ifCond .ne 5, 3) := by decide +kernel
theorem dX5_carryInTruth_8 : decode cX5_carryInTruth 8 = .ok (.iconst 0, 1) := by decide +kernel
theorem dX5_carryInTruth_9 : decode cX5_carryInTruth 9 = .ok (.ireturn, 1) := by decide +kernel
theorem dX5_carryInTruth_10 : decode cX5_carryInTruth 10 = .ok (.aload_n 3, 1) := by decide +kernel
theorem dX5_carryInTruth_11 : decode cX5_carryInTruth 11 = .ok (.aload_n 0, 1) := by decide +kernel
theorem dX5_carryInTruth_12 : decode cX5_carryInTruth 12 = .ok (.getfield 11, 3) := by decide +kernel
theorem dX5_carryInTruth_15 : decode cX5_carryInTruth 15 = .ok (.iload_n 1, 1) := by decide +kernel
theorem dX5_carryInTruth_16 : decode cX5_carryInTruth 16 = .ok (.aaload, 1) := by decide +kernel
theorem dX5_carryInTruth_17 : decode cX5_carryInTruth 17 = .ok (.aload_n 0, 1) := by decide +kernel
theorem dX5_carryInTruth_18 : decode cX5_carryInTruth 18 = .ok (.getfield 21, 3) := by decide +kernel
theorem dX5_carryInTruth_21 : decode cX5_carryInTruth 21 = .ok (.invokevirtual 89, 3) := by decide +kernel
theorem dX5_carryInTruth_24 : decode cX5_carryInTruth 24 = .ok (.aload_n 3, 1) := by decide +kernel
theorem dX5_carryInTruth_25 : decode cX5_carryInTruth 25 = .ok (.iconst 0, 1) := by decide +kernel
theorem dX5_carryInTruth_26 : decode cX5_carryInTruth 26 = .ok (.iload_n 2, 1) := by decide +kernel
theorem dX5_carryInTruth_27 : decode cX5_carryInTruth 27 = .ok (.invokevirtual 95, 3) := by decide +kernel
theorem dX5_carryInTruth_30 : decode cX5_carryInTruth 30 = .ok (.aload_n 0, 1) := by decide +kernel
theorem dX5_carryInTruth_31 : decode cX5_carryInTruth 31 = .ok (.getfield 11, 3) := by decide +kernel
theorem dX5_carryInTruth_34 : decode cX5_carryInTruth 34 = .ok (.iload_n 1, 1) := by decide +kernel
theorem dX5_carryInTruth_35 : decode cX5_carryInTruth 35 = .ok (.aaload, 1) := by decide +kernel
theorem dX5_carryInTruth_36 : decode cX5_carryInTruth 36 = .ok (.aload_n 3, 1) := by decide +kernel
theorem dX5_carryInTruth_37 : decode cX5_carryInTruth 37 = .ok (.getfield 99, 3) := by decide +kernel
theorem dX5_carryInTruth_40 : decode cX5_carryInTruth 40 = .ok (.invokevirtual 35, 3) := by decide +kernel
theorem dX5_carryInTruth_43 : decode cX5_carryInTruth 43 = .ok (.aload_n 0, 1) := by decide +kernel
theorem dX5_carryInTruth_44 : decode cX5_carryInTruth 44 = .ok (.iload_n 2, 1) := by decide +kernel
theorem dX5_carryInTruth_45 : decode cX5_carryInTruth 45 = .ok (.invokevirtual 109, 3) := by decide +kernel
theorem dX5_carryInTruth_48 : decode cX5_carryInTruth 48 = .ok (.aload_n 3, 1) := by decide +kernel
theorem dX5_carryInTruth_49 : decode cX5_carryInTruth 49 = .ok (.getfield 106, 3) := by decide +kernel
theorem dX5_carryInTruth_52 : decode cX5_carryInTruth 52 = .ok (.ireturn, 1) := by decide +kernel
theorem dX5_eat_0 : decode cX5_eat 0 = .ok (.aload_n 0, 1) := by decide +kernel
theorem dX5_eat_1 : decode cX5_eat 1 = .ok (.iload_n 1, 1) := by decide +kernel
theorem dX5_eat_2 : decode cX5_eat 2 = .ok (.invokevirtual 85, 3) := by decide +kernel
theorem dX5_eat_5 : decode cX5_eat 5 = .ok (.ifCond .ne 5, 3) := by decide +kernel
theorem dX5_eat_8 : decode cX5_eat 8 = .ok (.iconst 0, 1) := by decide +kernel
theorem dX5_eat_9 : decode cX5_eat 9 = .ok (.ireturn, 1) := by decide +kernel
theorem dX5_eat_10 : decode cX5_eat 10 = .ok (.aload_n 0, 1) := by decide +kernel
theorem dX5_eat_11 : decode cX5_eat 11 = .ok (.aload_n 0, 1) := by decide +kernel
theorem dX5_eat_12 : decode cX5_eat 12 = .ok (.getfield 11, 3) := by decide +kernel
theorem dX5_eat_15 : decode cX5_eat 15 = .ok (.iload_n 1, 1) := by decide +kernel
theorem dX5_eat_16 : decode cX5_eat 16 = .ok (.aaload, 1) := by decide +kernel
theorem dX5_eat_17 : decode cX5_eat 17 = .ok (.invokevirtual 113, 3) := by decide +kernel
theorem dX5_eat_20 : decode cX5_eat 20 = .ok (.istore_n 2, 1) := by decide +kernel
theorem dX5_eat_21 : decode cX5_eat 21 = .ok (.aload_n 0, 1) := by decide +kernel
theorem dX5_eat_22 : decode cX5_eat 22 = .ok (.dup, 1) := by decide +kernel
theorem dX5_eat_23 : decode cX5_eat 23 = .ok (.getfield 51, 3) := by decide +kernel
theorem dX5_eat_26 : decode cX5_eat 26 = .ok (.iload_n 2, 1) := by decide +kernel
theorem dX5_eat_27 : decode cX5_eat 27 = .ok (.iadd, 1) := by decide +kernel
theorem dX5_eat_28 : decode cX5_eat 28 = .ok (.putfield 51, 3) := by decide +kernel
theorem dX5_eat_31 : decode cX5_eat 31 = .ok (.aload_n 0, 1) := by decide +kernel
theorem dX5_eat_32 : decode cX5_eat 32 = .ok (.getfield 11, 3) := by decide +kernel
theorem dX5_eat_35 : decode cX5_eat 35 = .ok (.iload_n 1, 1) := by decide +kernel
theorem dX5_eat_36 : decode cX5_eat 36 = .ok (.aaload, 1) := by decide +kernel
theorem dX5_eat_37 : decode cX5_eat 37 = .ok (.iconst 0, 1) := by decide +kernel
theorem dX5_eat_38 : decode cX5_eat 38 = .ok (.putfield 65, 3) := by decide +kernel
theorem dX5_eat_41 : decode cX5_eat 41 = .ok (.iload_n 2, 1) := by decide +kernel
theorem dX5_eat_42 : decode cX5_eat 42 = .ok (.ireturn, 1) := by decide +kernel
theorem dX5_takeTea_0 : decode cX5_takeTea 0 = .ok (.aload_n 0, 1) := by decide +kernel
theorem dX5_takeTea_1 : decode cX5_takeTea 1 = .ok (.aload_n 0, 1) := by decide +kernel
theorem dX5_takeTea_2 : decode cX5_takeTea 2 = .ok (.getfield 45, 3) := by decide +kernel
theorem dX5_takeTea_5 : decode cX5_takeTea 5 = .ok (.invokevirtual 117, 3) := by decide +kernel
theorem dX5_takeTea_8 : decode cX5_takeTea 8 = .ok (.istore_n 2, 1) := by decide +kernel
theorem dX5_takeTea_9 : decode cX5_takeTea 9 = .ok (.aload_n 0, 1) := by decide +kernel
theorem dX5_takeTea_10 : decode cX5_takeTea 10 = .ok (.iload_n 2, 1) := by decide +kernel
theorem dX5_takeTea_11 : decode cX5_takeTea 11 = .ok (.invokevirtual 85, 3) := by decide +kernel
theorem dX5_takeTea_14 : decode cX5_takeTea 14 = .ok (.ifCond .eq 15, 3) := by decide +kernel
theorem dX5_takeTea_17 : decode cX5_takeTea 17 = .ok (.aload_n 0, 1) := by decide +kernel
theorem dX5_takeTea_18 : decode cX5_takeTea 18 = .ok (.getfield 11, 3) := by decide +kernel
theorem dX5_takeTea_21 : decode cX5_takeTea 21 = .ok (.iload_n 2, 1) := by decide +kernel
theorem dX5_takeTea_22 : decode cX5_takeTea 22 = .ok (.aaload, 1) := by decide +kernel
theorem dX5_takeTea_23 : decode cX5_takeTea 23 = .ok (.getfield 65, 3) := by decide +kernel
theorem dX5_takeTea_26 : decode cX5_takeTea 26 = .ok (.ifCond .ne 5, 3) := by decide +kernel
theorem dX5_takeTea_29 : decode cX5_takeTea 29 = .ok (.iconst 0, 1) := by decide +kernel
theorem dX5_takeTea_30 : decode cX5_takeTea 30 = .ok (.ireturn, 1) := by decide +kernel
theorem dX5_takeTea_31 : decode cX5_takeTea 31 = .ok (.aload_n 0, 1) := by decide +kernel
theorem dX5_takeTea_32 : decode cX5_takeTea 32 = .ok (.aload_n 0, 1) := by decide +kernel
theorem dX5_takeTea_33 : decode cX5_takeTea 33 = .ok (.getfield 11, 3) := by decide +kernel
theorem dX5_takeTea_36 : decode cX5_takeTea 36 = .ok (.iload_n 2, 1) := by decide +kernel
theorem dX5_takeTea_37 : decode cX5_takeTea 37 = .ok (.aaload, 1) := by decide +kernel
theorem dX5_takeTea_38 : decode cX5_takeTea 38 = .ok (.getfield 65, 3) := by decide +kernel
theorem dX5_takeTea_41 : decode cX5_takeTea 41 = .ok (.iconst 1, 1) := by decide +kernel
theorem dX5_takeTea_42 : decode cX5_takeTea 42 = .ok (.iadd, 1) := by decide +kernel
theorem dX5_takeTea_43 : decode cX5_takeTea 43 = .ok (.invokevirtual 117, 3) := by decide +kernel
theorem dX5_takeTea_46 : decode cX5_takeTea 46 = .ok (.istore_n 3, 1) := by decide +kernel
theorem dX5_takeTea_47 : decode cX5_takeTea 47 = .ok (.aload_n 0, 1) := by decide +kernel
theorem dX5_takeTea_48 : decode cX5_takeTea 48 = .ok (.bipush 10, 2) := by decide +kernel
theorem dX5_takeTea_50 : decode cX5_takeTea 50 = .ok (.invokevirtual 117, 3) := by decide +kernel
theorem dX5_takeTea_53 : decode cX5_takeTea 53 = .ok (.istore 4, 2) := by decide +kernel
theorem dX5_takeTea_55 : decode cX5_takeTea 55 = .ok (.aload_n 0, 1) := by decide +kernel
theorem dX5_takeTea_56 : decode cX5_takeTea 56 = .ok (.iload_n 2, 1) := by decide +kernel
theorem dX5_takeTea_57 : decode cX5_takeTea 57 = .ok (.iload_n 3, 1) := by decide +kernel
theorem dX5_takeTea_58 : decode cX5_takeTea 58 = .ok (.iload 4, 2) := by decide +kernel
theorem dX5_takeTea_60 : decode cX5_takeTea 60 = .ok (.aload_n 1, 1) := by decide +kernel
theorem dX5_takeTea_61 : decode cX5_takeTea 61 = .ok (.invokevirtual 120, 3) := by decide +kernel
theorem dX5_takeTea_64 : decode cX5_takeTea 64 = .ok (.pop, 1) := by decide +kernel
theorem dX5_takeTea_65 : decode cX5_takeTea 65 = .ok (.aload_n 0, 1) := by decide +kernel
theorem dX5_takeTea_66 : decode cX5_takeTea 66 = .ok (.iload_n 2, 1) := by decide +kernel
theorem dX5_takeTea_67 : decode cX5_takeTea 67 = .ok (.aload_n 0, 1) := by decide +kernel
theorem dX5_takeTea_68 : decode cX5_takeTea 68 = .ok (.bipush 6, 2) := by decide +kernel
theorem dX5_takeTea_70 : decode cX5_takeTea 70 = .ok (.invokevirtual 117, 3) := by decide +kernel
theorem dX5_takeTea_73 : decode cX5_takeTea 73 = .ok (.aload_n 1, 1) := by decide +kernel
theorem dX5_takeTea_74 : decode cX5_takeTea 74 = .ok (.invokevirtual 124, 3) := by decide +kernel
theorem dX5_takeTea_77 : decode cX5_takeTea 77 = .ok (.pop, 1) := by decide +kernel
theorem dX5_takeTea_78 : decode cX5_takeTea 78 = .ok (.aload_n 0, 1) := by decide +kernel
theorem dX5_takeTea_79 : decode cX5_takeTea 79 = .ok (.iload_n 2, 1) := by decide +kernel
theorem dX5_takeTea_80 : decode cX5_takeTea 80 = .ok (.invokevirtual 128, 3) := by decide +kernel
theorem dX5_takeTea_83 : decode cX5_takeTea 83 = .ok (.ireturn, 1) := by decide +kernel
theorem dX5_draw_0 : decode cX5_draw 0 = .ok (.aload_n 0, 1) := by decide +kernel
theorem dX5_draw_1 : decode cX5_draw 1 = .ok (.aload_n 0, 1) := by decide +kernel
theorem dX5_draw_2 : decode cX5_draw 2 = .ok (.getfield 31, 3) := by decide +kernel
theorem dX5_draw_5 : decode cX5_draw 5 = .ok (.ldc 131, 2) := by decide +kernel
theorem dX5_draw_7 : decode cX5_draw 7 = .ok (.imul, 1) := by decide +kernel
theorem dX5_draw_8 : decode cX5_draw 8 = .ok (.sipush 12345, 3) := by decide +kernel
theorem dX5_draw_11 : decode cX5_draw 11 = .ok (.iadd, 1) := by decide +kernel
theorem dX5_draw_12 : decode cX5_draw 12 = .ok (.putfield 31, 3) := by decide +kernel
theorem dX5_draw_15 : decode cX5_draw 15 = .ok (.iload_n 1, 1) := by decide +kernel
theorem dX5_draw_16 : decode cX5_draw 16 = .ok (.ifCond .le 15, 3) := by decide +kernel
theorem dX5_draw_19 : decode cX5_draw 19 = .ok (.aload_n 0, 1) := by decide +kernel
theorem dX5_draw_20 : decode cX5_draw 20 = .ok (.getfield 31, 3) := by decide +kernel
theorem dX5_draw_23 : decode cX5_draw 23 = .ok (.bipush 16, 2) := by decide +kernel
theorem dX5_draw_25 : decode cX5_draw 25 = .ok (.iushr, 1) := by decide +kernel
theorem dX5_draw_26 : decode cX5_draw 26 = .ok (.iload_n 1, 1) := by decide +kernel
theorem dX5_draw_27 : decode cX5_draw 27 = .ok (.irem, 1) := by decide +kernel
theorem dX5_draw_28 : decode cX5_draw 28 = .ok (.goto 4, 3) := by decide +kernel
theorem dX5_draw_31 : decode cX5_draw 31 = .ok (.iconst 0, 1) := by decide +kernel
theorem dX5_draw_32 : decode cX5_draw 32 = .ok (.ireturn, 1) := by decide +kernel
theorem dX6_init_0 : decode cX6_init 0 = .ok (.aload_n 0, 1) := by decide +kernel
theorem dX6_init_1 : decode cX6_init 1 = .ok (.invokespecial 1, 3) := by decide +kernel
theorem dX6_init_4 : decode cX6_init 4 = .ok (.aload_n 0, 1) := by decide +kernel
theorem dX6_init_5 : decode cX6_init 5 = .ok (.bipush 8, 2) := by decide +kernel
theorem dX6_init_7 : decode cX6_init 7 = .ok (.anewarray 9, 3) := by decide +kernel
theorem dX6_init_10 : decode cX6_init 10 = .ok (.putfield 11, 3) := by decide +kernel
theorem dX6_init_13 : decode cX6_init 13 = .ok (.aload_n 0, 1) := by decide +kernel
theorem dX6_init_14 : decode cX6_init 14 = .ok (.new 15, 3) := by decide +kernel
theorem dX6_init_17 : decode cX6_init 17 = .ok (.dup, 1) := by decide +kernel
theorem dX6_init_18 : decode cX6_init 18 = .ok (.invokespecial 17, 3) := by decide +kernel
theorem dX6_init_21 : decode cX6_init 21 = .ok (.putfield 18, 3) := by decide +kernel
theorem dX6_init_24 : decode cX6_init 24 = .ok (.aload_n 0, 1) := by decide +kernel
theorem dX6_init_25 : decode cX6_init 25 = .ok (.new 15, 3) := by decide +kernel
theorem dX6_init_28 : decode cX6_init 28 = .ok (.dup, 1) := by decide +kernel
theorem dX6_init_29 : decode cX6_init 29 = .ok (.invokespecial 17, 3) := by decide +kernel
theorem dX6_init_32 : decode cX6_init 32 = .ok (.putfield 22, 3) := by decide +kernel
theorem dX6_init_35 : decode cX6_init 35 = .ok (.aload_n 0, 1) := by decide +kernel
theorem dX6_init_36 : decode cX6_init 36 = .ok (.new 15, 3) := by decide +kernel
theorem dX6_init_39 : decode cX6_init 39 = .ok (.dup, 1) := by decide +kernel
theorem dX6_init_40 : decode cX6_init 40 = .ok (.invokespecial 17, 3) := by decide +kernel
theorem dX6_init_43 : decode cX6_init 43 = .ok (.putfield 25, 3) := by decide +kernel
theorem dX6_init_46 : decode cX6_init 46 = .ok (.aload_n 0, 1) := by decide +kernel
theorem dX6_init_47 : decode cX6_init 47 = .ok (.new 28, 3) := by decide +kernel
theorem dX6_init_50 : decode cX6_init 50 = .ok (.dup, 1) := by decide +kernel
theorem dX6_init_51 : decode cX6_init 51 = .ok (.invokespecial 30, 3) := by decide +kernel
theorem dX6_init_54 : decode cX6_init 54 = .ok (.putfield 31, 3) := by decide +kernel
theorem dX6_init_57 : decode cX6_init 57 = .ok (.aload_n 0, 1) := by decide +kernel
theorem dX6_init_58 : decode cX6_init 58 = .ok (.new 28, 3) := by decide +kernel
theorem dX6_init_61 : decode cX6_init 61 = .ok (.dup, 1) := by decide +kernel
theorem dX6_init_62 : decode cX6_init 62 = .ok (.invokespecial 30, 3) := by decide +kernel
theorem dX6_init_65 : decode cX6_init 65 = .ok (.putfield 35, 3) := by decide +kernel
theorem dX6_init_68 : decode cX6_init 68 = .ok (.aload_n 0, 1) := by decide +kernel
theorem dX6_init_69 : decode cX6_init 69 = .ok (.new 38, 3) := by decide +kernel
theorem dX6_init_72 : decode cX6_init 72 = .ok (.dup, 1) := by decide +kernel
theorem dX6_init_73 : decode cX6_init 73 = .ok (.aload_n 0, 1) := by decide +kernel
theorem dX6_init_74 : decode cX6_init 74 = .ok (.getfield 25, 3) := by decide +kernel
theorem dX6_init_77 : decode cX6_init 77 = .ok (.aload_n 0, 1) := by decide +kernel
theorem dX6_init_78 : decode cX6_init 78 = .ok (.getfield 31, 3) := by decide +kernel
theorem dX6_init_81 : decode cX6_init 81 = .ok (.invokespecial 40, 3) := by decide +kernel
theorem dX6_init_84 : decode cX6_init 84 = .ok (.putfield 43, 3) := by decide +kernel
theorem dX6_init_87 : decode cX6_init 87 = .ok (.aload_n 0, 1) := by decide +kernel
theorem dX6_init_88 : decode cX6_init 88 = .ok (.new 47, 3) := by decide +kernel
theorem dX6_init_91 : decode cX6_init 91 = .ok (.dup, 1) := by decide +kernel
theorem dX6_init_92 : decode cX6_init 92 = .ok (.invokespecial 49, 3) := by decide +kernel
theorem dX6_init_95 : decode cX6_init 95 = .ok (.putfield 50, 3) := by decide +kernel
theorem dX6_init_98 : decode cX6_init 98 = .ok (.aload_n 0, 1) := by decide +kernel
theorem dX6_init_99 : decode cX6_init 99 = .ok (.new 54, 3) := by decide +kernel
theorem dX6_init_102 : decode cX6_init 102 = .ok (.dup, 1) := by decide +kernel
theorem dX6_init_103 : decode cX6_init 103 = .ok (.invokespecial 56, 3) := by decide +kernel
theorem dX6_init_106 : decode cX6_init 106 = .ok (.putfield 57, 3) := by decide +kernel
theorem dX6_init_109 : decode cX6_init 109 = .ok (.aload_n 0, 1) := by decide +kernel
theorem dX6_init_110 : decode cX6_init 110 = .ok (.bipush 8, 2) := by decide +kernel
theorem dX6_init_112 : decode cX6_init 112 = .ok (.newarray .int, 2) := by decide +kernel
theorem dX6_init_114 : decode cX6_init 114 = .ok (.putfield 61, 3) := by decide +kernel
theorem dX6_init_117 : decode cX6_init 117 = .ok (.aload_n 0, 1) := by decide +kernel
theorem dX6_init_118 : decode cX6_init 118 = .ok (.bipush 25, 2) := by decide +kernel
theorem dX6_init_120 : decode cX6_init 120 = .ok (.newarray .int, 2) := by decide +kernel
theorem dX6_init_122 : decode cX6_init 122 = .ok (.putfield 65, 3) := by decide +kernel
theorem dX6_init_125 : decode cX6_init 125 = .ok (.aload_n 0, 1) := by decide +kernel
theorem dX6_init_126 : decode cX6_init 126 = .ok (.iconst 5, 1) := by decide +kernel
theorem dX6_init_127 : decode cX6_init 127 = .ok (.newarray .int, 2) := by decide +kernel
theorem dX6_init_129 : decode cX6_init 129 = .ok (.putfield 68, 3) := by decide +kernel
theorem dX6_init_132 : decode cX6_init 132 = .ok (.aload_n 0, 1) := by decide +kernel
theorem dX6_init_133 : decode cX6_init 133 = .ok (.iconst 5, 1) := by decide +kernel
theorem dX6_init_134 : decode cX6_init 134 = .ok (.newarray .int, 2) := by decide +kernel
theorem dX6_init_136 : decode cX6_init 136 = .ok (.putfield 71, 3) := by decide +kernel
theorem dX6_init_139 : decode cX6_init 139 = .ok (.aload_n 0, 1) := by decide +kernel
theorem dX6_init_140 : decode cX6_init 140 = .ok (.iconst (-1), 1) := by decide +kernel
theorem dX6_init_141 : decode cX6_init 141 = .ok (.putfield 74, 3) := by decide +kernel
theorem dX6_init_144 : decode cX6_init 144 = .ok (.iconst 0, 1) := by decide +kernel
theorem dX6_init_145 : decode cX6_init 145 = .ok (.istore_n 1, 1) := by decide +kernel
theorem dX6_init_146 : decode cX6_init 146 = .ok (.iload_n 1, 1) := by decide +kernel
theorem dX6_init_147 : decode cX6_init 147 = .ok (.bipush 8, 2) := by decide +kernel
theorem dX6_init_149 : decode cX6_init 149 = .ok (.if_icmp .ge 22, 3) := by decide +kernel
theorem dX6_init_152 : decode cX6_init 152 = .ok (.aload_n 0, 1) := by decide +kernel
theorem dX6_init_153 : decode cX6_init 153 = .ok (.getfield 11, 3) := by decide +kernel
theorem dX6_init_156 : decode cX6_init 156 = .ok (.iload_n 1, 1) := by decide +kernel
theorem dX6_init_157 : decode cX6_init 157 = .ok (.new 9, 3) := by decide +kernel
theorem dX6_init_160 : decode cX6_init 160 = .ok (.dup, 1) := by decide +kernel
theorem dX6_init_161 : decode cX6_init 161 = .ok (.invokespecial 78, 3) := by decide +kernel
theorem dX6_init_164 : decode cX6_init 164 = .ok (.aastore, 1) := by decide +kernel
theorem dX6_init_165 : decode cX6_init 165 = .ok (.iinc 1 1, 3) := by decide +kernel
theorem dX6_init_168 : decode cX6_init 168 = .ok (.goto (-22), 3) := by decide +kernel
theorem dX6_init_171 : decode cX6_init 171 = .ok (.return_, 1) := by decide +kernel
theorem dX6_row_0 : decode cX6_row 0 = .ok (.iload_n 1, 1) := by decide +kernel
theorem dX6_row_1 : decode cX6_row 1 = .ok (.invokestatic 79, 3) := by decide +kernel
theorem dX6_row_4 : decode cX6_row 4 = .ok (.ifCond .ne 9, 3) := by decide +kernel
theorem dX6_row_7 : decode cX6_row 7 = .ok (.aload_n 0, 1) := by decide +kernel
theorem dX6_row_8 : decode cX6_row 8 = .ok (.iconst 1, 1) := by decide +kernel
theorem dX6_row_9 : decode cX6_row 9 = .ok (.invokevirtual 83, 3) := by decide +kernel
theorem dX6_row_12 : decode cX6_row 12 = .ok (.ireturn, 1) := by decide +kernel
theorem dX6_row_13 : decode cX6_row 13 = .ok (.iload_n 3, 1) := by decide +kernel
theorem dX6_row_14 : decode cX6_row 14 = .ok (.ifCond .ge 9, 3) := by decide +kernel
theorem dX6_row_17 : decode cX6_row 17 = .ok (.aload_n 0, 1) := by decide +kernel
theorem dX6_row_18 : decode cX6_row 18 = .ok (.iconst 4, 1) := by decide +kernel
theorem dX6_row_19 : decode cX6_row 19 = .ok (.invokevirtual 83, 3) := by decide +kernel
theorem dX6_row_22 : decode cX6_row 22 = .ok (.ireturn, 1) := by decide +kernel
theorem dX6_row_23 : decode cX6_row 23 = .ok (.iload_n 2, 1) := by decide +kernel
theorem dX6_row_24 : decode cX6_row 24 = .ok (.iconst 0, 1) := by decide +kernel
theorem dX6_row_25 : decode cX6_row 25 = .ok (.iconst 3, 1) := by decide +kernel
theorem dX6_row_26 : decode cX6_row 26 = .ok (.invokestatic 87, 3) := by decide +kernel
theorem dX6_row_29 : decode cX6_row 29 = .ok (.ifCond .ne 10, 3) := by decide +kernel
theorem dX6_row_32 : decode cX6_row 32 = .ok (.aload_n 0, 1) := by decide +kernel
theorem dX6_row_33 : decode cX6_row 33 = .ok (.bipush 6, 2) := by decide +kernel
theorem dX6_row_35 : decode cX6_row 35 = .ok (.invokevirtual 83, 3) := by decide +kernel
theorem dX6_row_38 : decode cX6_row 38 = .ok (.ireturn, 1) := by decide +kernel
theorem dX6_row_39 : decode cX6_row 39 = .ok (.iload_n 3, 1) := by decide +kernel
theorem dX6_row_40 : decode cX6_row 40 = .ok (.sipush 160, 3) := by decide +kernel
theorem dX6_row_43 : decode cX6_row 43 = .ok (.if_icmp .le 10, 3) := by decide +kernel
theorem dX6_row_46 : decode cX6_row 46 = .ok (.aload_n 0, 1) := by decide +kernel
theorem dX6_row_47 : decode cX6_row 47 = .ok (.bipush 7, 2) := by decide +kernel
theorem dX6_row_49 : decode cX6_row 49 = .ok (.invokevirtual 83, 3) := by decide +kernel
theorem dX6_row_52 : decode cX6_row 52 = .ok (.ireturn, 1) := by decide +kernel
theorem dX6_row_53 : decode cX6_row 53 = .ok (.aload_n 0, 1) := by decide +kernel
theorem dX6_row_54 : decode cX6_row 54 = .ok (.getfield 11, 3) := by decide +kernel
theorem dX6_row_57 : decode cX6_row 57 = .ok (.iload_n 1, 1) := by decide +kernel
theorem dX6_row_58 : decode cX6_row 58 = .ok (.aaload, 1) := by decide +kernel
theorem dX6_row_59 : decode cX6_row 59 = .ok (.iload_n 2, 1) := by decide +kernel
theorem dX6_row_60 : decode cX6_row 60 = .ok (.iload_n 3, 1) := by decide +kernel
theorem dX6_row_61 : decode cX6_row 61 = .ok (.invokevirtual 91, 3) := by decide +kernel
theorem dX6_row_64 : decode cX6_row 64 = .ok (.iconst 1, 1) := by decide +kernel
theorem dX6_row_65 : decode cX6_row 65 = .ok (.ireturn, 1) := by decide +kernel
theorem dX6_set_0 : decode cX6_set 0 = .ok (.aload_n 0, 1) := by decide +kernel
theorem dX6_set_1 : decode cX6_set 1 = .ok (.iload_n 1, 1) := by decide +kernel
theorem dX6_set_2 : decode cX6_set 2 = .ok (.invokevirtual 95, 3) := by decide +kernel
theorem dX6_set_5 : decode cX6_set 5 = .ok (.istore 5, 2) := by decide +kernel
theorem dX6_set_7 : decode cX6_set 7 = .ok (.iload 5, 2) := by decide +kernel
theorem dX6_set_9 : decode cX6_set 9 = .ok (.ifCond .eq 10, 3) := by decide +kernel
theorem dX6_set_12 : decode cX6_set 12 = .ok (.aload_n 0, 1) := by decide +kernel
theorem dX6_set_13 : decode cX6_set 13 = .ok (.iload 5, 2) := by decide +kernel
theorem dX6_set_15 : decode cX6_set 15 = .ok (.invokevirtual 83, 3) := by decide +kernel
theorem dX6_set_18 : decode cX6_set 18 = .ok (.ireturn, 1) := by decide +kernel
theorem dX6_set_19 : decode cX6_set 19 = .ok (.aload_n 0, 1) := by decide +kernel
theorem dX6_set_20 : decode cX6_set 20 = .ok (.getfield 11, 3) := by decide +kernel
theorem dX6_set_23 : decode cX6_set 23 = .ok (.iload_n 1, 1) := by decide +kernel
theorem dX6_set_24 : decode cX6_set 24 = .ok (.aaload, 1) := by decide +kernel
theorem dX6_set_25 : decode cX6_set 25 = .ok (.iload_n 2, 1) := by decide +kernel
theorem dX6_set_26 : decode cX6_set 26 = .ok (.invokevirtual 98, 3) := by decide +kernel
theorem dX6_set_29 : decode cX6_set 29 = .ok (.ifCond .ne 9, 3) := by decide +kernel
theorem dX6_set_32 : decode cX6_set 32 = .ok (.aload_n 0, 1) := by decide +kernel
theorem dX6_set_33 : decode cX6_set 33 = .ok (.iconst 5, 1) := by decide +kernel
theorem dX6_set_34 : decode cX6_set 34 = .ok (.invokevirtual 83, 3) := by decide +kernel
theorem dX6_set_37 : decode cX6_set 37 = .ok (.ireturn, 1) := by decide +kernel
theorem dX6_set_38 : decode cX6_set 38 = .ok (.aload_n 0, 1) := by decide +kernel
theorem dX6_set_39 : decode cX6_set 39 = .ok (.getfield 11, 3) := by decide +kernel
theorem dX6_set_42 : decode cX6_set 42 = .ok (.iload_n 1, 1) := by decide +kernel
theorem dX6_set_43 : decode cX6_set 43 = .ok (.aaload, 1) := by decide +kernel
theorem dX6_set_44 : decode cX6_set 44 = .ok (.iload_n 2, 1) := by decide +kernel
theorem dX6_set_45 : decode cX6_set 45 = .ok (.lload_n 3, 1) := by decide +kernel
theorem dX6_set_46 : decode cX6_set 46 = .ok (.invokevirtual 101, 3) := by decide +kernel
theorem dX6_set_49 : decode cX6_set 49 = .ok (.iconst 1, 1) := by decide +kernel
theorem dX6_set_50 : decode cX6_set 50 = .ok (.ireturn, 1) := by decide +kernel
theorem dX6_copy_0 : decode cX6_copy 0 = .ok (.aload_n 0, 1) := by decide +kernel
theorem dX6_copy_1 : decode cX6_copy 1 = .ok (.iload_n 1, 1) := by decide +kernel
theorem dX6_copy_2 : decode cX6_copy 2 = .ok (.iload_n 2, 1) := by decide +kernel
theorem dX6_copy_3 : decode cX6_copy 3 = .ok (.iload_n 3, 1) := by decide +kernel
theorem dX6_copy_4 : decode cX6_copy 4 = .ok (.iload 4, 2) := by decide +kernel
theorem dX6_copy_6 : decode cX6_copy 6 = .ok (.iload 5, 2) := by decide +kernel
theorem dX6_copy_8 : decode cX6_copy 8 = .ok (.invokevirtual 105, 3) := by decide +kernel
theorem dX6_copy_11 : decode cX6_copy 11 = .ok (.istore 6, 2) := by decide +kernel
theorem dX6_copy_13 : decode cX6_copy 13 = .ok (.iload 6, 2) := by decide +kernel
theorem dX6_copy_15 : decode cX6_copy 15 = .ok (.ifCond .eq 10, 3) := by decide +kernel
theorem dX6_copy_18 : decode cX6_copy 18 = .ok (.aload_n 0, 1) := by decide +kernel
theorem dX6_copy_19 : decode cX6_copy 19 = .ok (.iload 6, 2) := by decide +kernel
theorem dX6_copy_21 : decode cX6_copy 21 = .ok (.invokevirtual 83, 3) := by decide +kernel
theorem dX6_copy_24 : decode cX6_copy 24 = .ok (.ireturn, 1) := by decide +kernel
theorem dX6_copy_25 : decode cX6_copy 25 = .ok (.aload_n 0, 1) := by decide +kernel
theorem dX6_copy_26 : decode cX6_copy 26 = .ok (.getfield 11, 3) := by decide +kernel
theorem dX6_copy_29 : decode cX6_copy 29 = .ok (.iload_n 1, 1) := by decide +kernel
theorem dX6_copy_30 : decode cX6_copy 30 = .ok (.aaload, 1) := by decide +kernel
theorem dX6_copy_31 : decode cX6_copy 31 = .ok (.getfield 109, 3) := by decide +kernel
theorem dX6_copy_34 : decode cX6_copy 34 = .ok (.iload_n 3, 1) := by decide +kernel
theorem dX6_copy_35 : decode cX6_copy 35 = .ok (.aload_n 0, 1) := by decide +kernel
theorem dX6_copy_36 : decode cX6_copy 36 = .ok (.getfield 11, 3) := by decide +kernel
theorem dX6_copy_39 : decode cX6_copy 39 = .ok (.iload_n 2, 1) := by decide +kernel
theorem dX6_copy_40 : decode cX6_copy 40 = .ok (.aaload, 1) := by decide +kernel
theorem dX6_copy_41 : decode cX6_copy 41 = .ok (.getfield 109, 3) := by decide +kernel
theorem dX6_copy_44 : decode cX6_copy 44 = .ok (.iload 4, 2) := by decide +kernel
theorem dX6_copy_46 : decode cX6_copy 46 = .ok (.iload 5, 2) := by decide +kernel
theorem dX6_copy_48 : decode cX6_copy 48 = .ok (.invokestatic 113, 3) := by decide +kernel
theorem dX6_copy_51 : decode cX6_copy 51 = .ok (.iconst 1, 1) := by decide +kernel
theorem dX6_copy_52 : decode cX6_copy 52 = .ok (.ireturn, 1) := by decide +kernel
theorem dX6_element_0 : decode cX6_element 0 = .ok (.iload_n 1, 1) := by decide +kernel
theorem dX6_element_1 : decode cX6_element 1 = .ok (.invokestatic 79, 3) := by decide +kernel
theorem dX6_element_4 : decode cX6_element 4 = .ok (.ifCond .eq 16, 3) := by decide +kernel
theorem dX6_element_7 : decode cX6_element 7 = .ok (.aload_n 0, 1) := by decide +kernel
theorem dX6_element_8 : decode cX6_element 8 = .ok (.getfield 11, 3) := by decide +kernel
theorem dX6_element_11 : decode cX6_element 11 = .ok (.iload_n 1, 1) := by decide +kernel
theorem dX6_element_12 : decode cX6_element 12 = .ok (.aaload, 1) := by decide +kernel
theorem dX6_element_13 : decode cX6_element 13 = .ok (.iload_n 2, 1) := by decide +kernel
theorem dX6_element_14 : decode cX6_element 14 = .ok (.invokevirtual 119, 3) := by decide +kernel
theorem dX6_element_17 : decode cX6_element 17 = .ok (.goto 4, 3) := by decide +kernel
theorem dX6_element_20 : decode cX6_element 20 = .ok (.lconst 0, 1) := by decide +kernel
theorem dX6_element_21 : decode cX6_element 21 = .ok (.lreturn, 1) := by decide +kernel
theorem dX6_show_0 : decode cX6_show 0 = .ok (.iload_n 1, 1) := by decide +kernel
theorem dX6_show_1 : decode cX6_show 1 = .ok (.invokestatic 79, 3) := by decide +kernel
theorem dX6_show_4 : decode cX6_show 4 = .ok (.ifCond .eq 19, 3) := by decide +kernel
theorem dX6_show_7 : decode cX6_show 7 = .ok (.iload_n 2, 1) := by decide +kernel
theorem dX6_show_8 : decode cX6_show 8 = .ok (.iconst (-1), 1) := by decide +kernel
theorem dX6_show_9 : decode cX6_show 9 = .ok (.if_icmp .eq 20, 3) := by decide +kernel
theorem dX6_show_12 : decode cX6_show 12 = .ok (.aload_n 0, 1) := by decide +kernel
theorem dX6_show_13 : decode cX6_show 13 = .ok (.getfield 18, 3) := by decide +kernel
theorem dX6_show_16 : decode cX6_show 16 = .ok (.iload_n 2, 1) := by decide +kernel
theorem dX6_show_17 : decode cX6_show 17 = .ok (.invokevirtual 123, 3) := by decide +kernel
theorem dX6_show_20 : decode cX6_show 20 = .ok (.ifCond .ne 9, 3) := by decide +kernel
theorem dX6_show_23 : decode cX6_show 23 = .ok (.aload_n 0, 1) := by decide +kernel
theorem dX6_show_24 : decode cX6_show 24 = .ok (.iconst 1, 1) := by decide +kernel
theorem dX6_show_25 : decode cX6_show 25 = .ok (.invokevirtual 83, 3) := by decide +kernel
theorem dX6_show_28 : decode cX6_show 28 = .ok (.ireturn, 1) := by decide +kernel
theorem dX6_show_29 : decode cX6_show 29 = .ok (.aload_n 0, 1) := by decide +kernel
theorem dX6_show_30 : decode cX6_show 30 = .ok (.getfield 11, 3) := by decide +kernel
theorem dX6_show_33 : decode cX6_show 33 = .ok (.iload_n 1, 1) := by decide +kernel
theorem dX6_show_34 : decode cX6_show 34 = .ok (.aaload, 1) := by decide +kernel
theorem dX6_show_35 : decode cX6_show 35 = .ok (.iload_n 2, 1) := by decide +kernel
theorem dX6_show_36 : decode cX6_show 36 = .ok (.invokevirtual 126, 3) := by decide +kernel
theorem dX6_show_39 : decode cX6_show 39 = .ok (.iload_n 2, 1) := by decide +kernel
theorem dX6_show_40 : decode cX6_show 40 = .ok (.iconst (-1), 1) := by decide +kernel
theorem dX6_show_41 : decode cX6_show 41 = .ok (.if_icmp .ne 7, 3) := by decide +kernel
theorem dX6_show_44 : decode cX6_show 44 = .ok (.iconst 0, 1) := by decide +kernel
theorem dX6_show_45 : decode cX6_show 45 = .ok (.goto 4, 3) := by decide +kernel
theorem dX6_show_48 : decode cX6_show 48 = .ok (.iconst 1, 1) := by decide +kernel
theorem dX6_show_49 : decode cX6_show 49 = .ok (.ireturn, 1) := by decide +kernel
theorem dX6_holds_0 : decode cX6_holds 0 = .ok (.iload_n 1, 1) := by decide +kernel
theorem dX6_holds_1 : decode cX6_holds 1 = .ok (.invokestatic 79, 3) := by decide +kernel
theorem dX6_holds_4 : decode cX6_holds 4 = .ok (.ifCond .eq 15, 3) := by decide +kernel
theorem dX6_holds_7 : decode cX6_holds 7 = .ok (.aload_n 0, 1) := by decide +kernel
theorem dX6_holds_8 : decode cX6_holds 8 = .ok (.getfield 11, 3) := by decide +kernel
theorem dX6_holds_11 : decode cX6_holds 11 = .ok (.iload_n 1, 1) := by decide +kernel
theorem dX6_holds_12 : decode cX6_holds 12 = .ok (.aaload, 1) := by decide +kernel
theorem dX6_holds_13 : decode cX6_holds 13 = .ok (.invokevirtual 130, 3) := by decide +kernel
theorem dX6_holds_16 : decode cX6_holds 16 = .ok (.goto 4, 3) := by decide +kernel
theorem dX6_holds_19 : decode cX6_holds 19 = .ok (.iconst (-1), 1) := by decide +kernel
theorem dX6_holds_20 : decode cX6_holds 20 = .ok (.ireturn, 1) := by decide +kernel
theorem dX6_says_0 : decode cX6_says 0 = .ok (.iload_n 1, 1) := by decide +kernel
theorem dX6_says_1 : decode cX6_says 1 = .ok (.invokestatic 79, 3) := by decide +kernel
theorem dX6_says_4 : decode cX6_says 4 = .ok (.ifCond .eq 13, 3) := by decide +kernel
theorem dX6_says_7 : decode cX6_says 7 = .ok (.iload_n 2, 1) := by decide +kernel
theorem dX6_says_8 : decode cX6_says 8 = .ok (.iconst 0, 1) := by decide +kernel
theorem dX6_says_9 : decode cX6_says 9 = .ok (.bipush 6, 2) := by decide +kernel
theorem dX6_says_11 : decode cX6_says 11 = .ok (.invokestatic 87, 3) := by decide +kernel
theorem dX6_says_14 : decode cX6_says 14 = .ok (.ifCond .ne 9, 3) := by decide +kernel
theorem dX6_says_17 : decode cX6_says 17 = .ok (.aload_n 0, 1) := by decide +kernel
theorem dX6_says_18 : decode cX6_says 18 = .ok (.iconst 1, 1) := by decide +kernel
theorem dX6_says_19 : decode cX6_says 19 = .ok (.invokevirtual 83, 3) := by decide +kernel
theorem dX6_says_22 : decode cX6_says 22 = .ok (.ireturn, 1) := by decide +kernel
theorem dX6_says_23 : decode cX6_says 23 = .ok (.aload_n 0, 1) := by decide +kernel
theorem dX6_says_24 : decode cX6_says 24 = .ok (.getfield 11, 3) := by decide +kernel
theorem dX6_says_27 : decode cX6_says 27 = .ok (.iload_n 1, 1) := by decide +kernel
theorem dX6_says_28 : decode cX6_says 28 = .ok (.aaload, 1) := by decide +kernel
theorem dX6_says_29 : decode cX6_says 29 = .ok (.astore_n 3, 1) := by decide +kernel
theorem dX6_says_30 : decode cX6_says 30 = .ok (.aload_n 3, 1) := by decide +kernel
theorem dX6_says_31 : decode cX6_says 31 = .ok (.invokevirtual 134, 3) := by decide +kernel
theorem dX6_says_34 : decode cX6_says 34 = .ok (.ifCond .eq 9, 3) := by decide +kernel
theorem dX6_says_37 : decode cX6_says 37 = .ok (.aload_n 0, 1) := by decide +kernel
theorem dX6_says_38 : decode cX6_says 38 = .ok (.iconst 2, 1) := by decide +kernel
theorem dX6_says_39 : decode cX6_says 39 = .ok (.invokevirtual 83, 3) := by decide +kernel
theorem dX6_says_42 : decode cX6_says 42 = .ok (.ireturn, 1) := by decide +kernel
theorem dX6_says_43 : decode cX6_says 43 = .ok (.aload_n 0, 1) := by decide +kernel
theorem dX6_says_44 : decode cX6_says 44 = .ok (.getfield 18, 3) := by decide +kernel
theorem dX6_says_47 : decode cX6_says 47 = .ok (.aload_n 3, 1) := by decide +kernel
theorem dX6_says_48 : decode cX6_says 48 = .ok (.getfield 138, 3) := by decide +kernel
theorem dX6_says_51 : decode cX6_says 51 = .ok (.invokevirtual 123, 3) := by decide +kernel
theorem dX6_says_54 : decode cX6_says 54 = .ok (.ifCond .ne 9, 3) := by decide +kernel
theorem dX6_says_57 : decode cX6_says 57 = .ok (.aload_n 0, 1) := by decide +kernel
theorem dX6_says_58 : decode cX6_says 58 = .ok (.iconst 3, 1) := by decide +kernel
theorem dX6_says_59 : decode cX6_says 59 = .ok (.invokevirtual 83, 3) := by decide +kernel
theorem dX6_says_62 : decode cX6_says 62 = .ok (.ireturn, 1) := by decide +kernel
theorem dX6_says_63 : decode cX6_says 63 = .ok (.aload_n 0, 1) := by decide +kernel
theorem dX6_says_64 : decode cX6_says 64 = .ok (.getfield 18, 3) := by decide +kernel
theorem dX6_says_67 : decode cX6_says 67 = .ok (.getfield 141, 3) := by decide +kernel
theorem dX6_says_70 : decode cX6_says 70 = .ok (.aload_n 3, 1) := by decide +kernel
theorem dX6_says_71 : decode cX6_says 71 = .ok (.getfield 138, 3) := by decide +kernel
theorem dX6_says_74 : decode cX6_says 74 = .ok (.aaload, 1) := by decide +kernel
theorem dX6_says_75 : decode cX6_says 75 = .ok (.astore 4, 2) := by decide +kernel
theorem dX6_says_77 : decode cX6_says 77 = .ok (.aload 4, 2) := by decide +kernel
theorem dX6_says_79 : decode cX6_says 79 = .ok (.iload_n 2, 1) := by decide +kernel
theorem dX6_says_80 : decode cX6_says 80 = .ok (.invokevirtual 145, 3) := by decide +kernel
theorem dX6_says_83 : decode cX6_says 83 = .ok (.ifCond .ne 9, 3) := by decide +kernel
theorem dX6_says_86 : decode cX6_says 86 = .ok (.aload_n 0, 1) := by decide +kernel
theorem dX6_says_87 : decode cX6_says 87 = .ok (.iconst 2, 1) := by decide +kernel
theorem dX6_says_88 : decode cX6_says 88 = .ok (.invokevirtual 83, 3) := by decide +kernel
theorem dX6_says_91 : decode cX6_says 91 = .ok (.ireturn, 1) := by decide +kernel
theorem dX6_says_92 : decode cX6_says 92 = .ok (.aload_n 0, 1) := by decide +kernel
theorem dX6_says_93 : decode cX6_says 93 = .ok (.aload 4, 2) := by decide +kernel
theorem dX6_says_95 : decode cX6_says 95 = .ok (.iload_n 2, 1) := by decide +kernel
theorem dX6_says_96 : decode cX6_says 96 = .ok (.invokevirtual 148, 3) := by decide +kernel
theorem dX6_says_99 : decode cX6_says 99 = .ok (.ireturn, 1) := by decide +kernel
theorem dX6_biscuit_0 : decode cX6_biscuit 0 = .ok (.iload_n 1, 1) := by decide +kernel
theorem dX6_biscuit_1 : decode cX6_biscuit 1 = .ok (.iconst 0, 1) := by decide +kernel
theorem dX6_biscuit_2 : decode cX6_biscuit 2 = .ok (.bipush 6, 2) := by decide +kernel
theorem dX6_biscuit_4 : decode cX6_biscuit 4 = .ok (.invokestatic 87, 3) := by decide +kernel
theorem dX6_biscuit_7 : decode cX6_biscuit 7 = .ok (.ifCond .ne 9, 3) := by decide +kernel
theorem dX6_biscuit_10 : decode cX6_biscuit 10 = .ok (.aload_n 0, 1) := by decide +kernel
theorem dX6_biscuit_11 : decode cX6_biscuit 11 = .ok (.iconst 1, 1) := by decide +kernel
theorem dX6_biscuit_12 : decode cX6_biscuit 12 = .ok (.invokevirtual 83, 3) := by decide +kernel
theorem dX6_biscuit_15 : decode cX6_biscuit 15 = .ok (.ireturn, 1) := by decide +kernel
theorem dX6_biscuit_16 : decode cX6_biscuit 16 = .ok (.iload_n 2, 1) := by decide +kernel
theorem dX6_biscuit_17 : decode cX6_biscuit 17 = .ok (.iconst 1, 1) := by decide +kernel
theorem dX6_biscuit_18 : decode cX6_biscuit 18 = .ok (.bipush 12, 2) := by decide +kernel
theorem dX6_biscuit_20 : decode cX6_biscuit 20 = .ok (.invokestatic 87, 3) := by decide +kernel
theorem dX6_biscuit_23 : decode cX6_biscuit 23 = .ok (.ifCond .eq 13, 3) := by decide +kernel
theorem dX6_biscuit_26 : decode cX6_biscuit 26 = .ok (.iload_n 3, 1) := by decide +kernel
theorem dX6_biscuit_27 : decode cX6_biscuit 27 = .ok (.iconst 0, 1) := by decide +kernel
theorem dX6_biscuit_28 : decode cX6_biscuit 28 = .ok (.bipush 9, 2) := by decide +kernel
theorem dX6_biscuit_30 : decode cX6_biscuit 30 = .ok (.invokestatic 87, 3) := by decide +kernel
theorem dX6_biscuit_33 : decode cX6_biscuit 33 = .ok (.ifCond .ne 10, 3) := by decide +kernel
theorem dX6_biscuit_36 : decode cX6_biscuit 36 = .ok (.aload_n 0, 1) := by decide +kernel
theorem dX6_biscuit_37 : decode cX6_biscuit 37 = .ok (.bipush 6, 2) := by decide +kernel
theorem dX6_biscuit_39 : decode cX6_biscuit 39 = .ok (.invokevirtual 83, 3) := by decide +kernel
theorem dX6_biscuit_42 : decode cX6_biscuit 42 = .ok (.ireturn, 1) := by decide +kernel
theorem dX6_biscuit_43 : decode cX6_biscuit 43 = .ok (.aload_n 0, 1) := by decide +kernel
theorem dX6_biscuit_44 : decode cX6_biscuit 44 = .ok (.getfield 18, 3) := by decide +kernel
theorem dX6_biscuit_47 : decode cX6_biscuit 47 = .ok (.invokevirtual 152, 3) := by decide +kernel
theorem dX6_biscuit_50 : decode cX6_biscuit 50 = .ok (.ifCond .ne 10, 3) := by decide +kernel
theorem dX6_biscuit_53 : decode cX6_biscuit 53 = .ok (.aload_n 0, 1) := by decide +kernel
theorem dX6_biscuit_54 : decode cX6_biscuit 54 = .ok (.bipush 7, 2) := by decide +kernel
theorem dX6_biscuit_56 : decode cX6_biscuit 56 = .ok (.invokevirtual 83, 3) := by decide +kernel
theorem dX6_biscuit_59 : decode cX6_biscuit 59 = .ok (.ireturn, 1) := by decide +kernel
theorem dX6_biscuit_60 : decode cX6_biscuit 60 = .ok (.aload_n 0, 1) := by decide +kernel
theorem dX6_biscuit_61 : decode cX6_biscuit 61 = .ok (.getfield 18, 3) := by decide +kernel
theorem dX6_biscuit_64 : decode cX6_biscuit 64 = .ok (.iload_n 1, 1) := by decide +kernel
theorem dX6_biscuit_65 : decode cX6_biscuit 65 = .ok (.iload_n 2, 1) := by decide +kernel
theorem dX6_biscuit_66 : decode cX6_biscuit 66 = .ok (.iload_n 3, 1) := by decide +kernel
theorem dX6_biscuit_67 : decode cX6_biscuit 67 = .ok (.invokevirtual 155, 3) := by decide +kernel
theorem dX6_biscuit_70 : decode cX6_biscuit 70 = .ok (.ireturn, 1) := by decide +kernel
theorem dX6_biscuitOf_0 : decode cX6_biscuitOf 0 = .ok (.aload_n 0, 1) := by decide +kernel
theorem dX6_biscuitOf_1 : decode cX6_biscuitOf 1 = .ok (.getfield 18, 3) := by decide +kernel
theorem dX6_biscuitOf_4 : decode cX6_biscuitOf 4 = .ok (.iload_n 1, 1) := by decide +kernel
theorem dX6_biscuitOf_5 : decode cX6_biscuitOf 5 = .ok (.invokevirtual 123, 3) := by decide +kernel
theorem dX6_biscuitOf_8 : decode cX6_biscuitOf 8 = .ok (.ifCond .ne 9, 3) := by decide +kernel
theorem dX6_biscuitOf_11 : decode cX6_biscuitOf 11 = .ok (.aload_n 0, 1) := by decide +kernel
theorem dX6_biscuitOf_12 : decode cX6_biscuitOf 12 = .ok (.iconst 5, 1) := by decide +kernel
theorem dX6_biscuitOf_13 : decode cX6_biscuitOf 13 = .ok (.invokevirtual 83, 3) := by decide +kernel
theorem dX6_biscuitOf_16 : decode cX6_biscuitOf 16 = .ok (.ireturn, 1) := by decide +kernel
theorem dX6_biscuitOf_17 : decode cX6_biscuitOf 17 = .ok (.aload_n 0, 1) := by decide +kernel
theorem dX6_biscuitOf_18 : decode cX6_biscuitOf 18 = .ok (.getfield 18, 3) := by decide +kernel
theorem dX6_biscuitOf_21 : decode cX6_biscuitOf 21 = .ok (.getfield 141, 3) := by decide +kernel
theorem dX6_biscuitOf_24 : decode cX6_biscuitOf 24 = .ok (.iload_n 1, 1) := by decide +kernel
theorem dX6_biscuitOf_25 : decode cX6_biscuitOf 25 = .ok (.aaload, 1) := by decide +kernel
theorem dX6_biscuitOf_26 : decode cX6_biscuitOf 26 = .ok (.astore_n 3, 1) := by decide +kernel
theorem dX6_biscuitOf_27 : decode cX6_biscuitOf 27 = .ok (.iload_n 2, 1) := by decide +kernel
theorem dX6_biscuitOf_28 : decode cX6_biscuitOf 28 = .ok (.tableswitch 52 0 3 #[32, 37, 42, 47], 32) := by decide +kernel
theorem dX6_biscuitOf_60 : decode cX6_biscuitOf 60 = .ok (.aload_n 3, 1) := by decide +kernel
theorem dX6_biscuitOf_61 : decode cX6_biscuitOf 61 = .ok (.getfield 159, 3) := by decide +kernel
theorem dX6_biscuitOf_64 : decode cX6_biscuitOf 64 = .ok (.ireturn, 1) := by decide +kernel
theorem dX6_biscuitOf_65 : decode cX6_biscuitOf 65 = .ok (.aload_n 3, 1) := by decide +kernel
theorem dX6_biscuitOf_66 : decode cX6_biscuitOf 66 = .ok (.getfield 162, 3) := by decide +kernel
theorem dX6_biscuitOf_69 : decode cX6_biscuitOf 69 = .ok (.ireturn, 1) := by decide +kernel
theorem dX6_biscuitOf_70 : decode cX6_biscuitOf 70 = .ok (.aload_n 3, 1) := by decide +kernel
theorem dX6_biscuitOf_71 : decode cX6_biscuitOf 71 = .ok (.getfield 165, 3) := by decide +kernel
theorem dX6_biscuitOf_74 : decode cX6_biscuitOf 74 = .ok (.ireturn, 1) := by decide +kernel
theorem dX6_biscuitOf_75 : decode cX6_biscuitOf 75 = .ok (.aload_n 3, 1) := by decide +kernel
theorem dX6_biscuitOf_76 : decode cX6_biscuitOf 76 = .ok (.invokevirtual 168, 3) := by decide +kernel
theorem dX6_biscuitOf_79 : decode cX6_biscuitOf 79 = .ok (.ireturn, 1) := by decide +kernel
theorem dX6_biscuitOf_80 : decode cX6_biscuitOf 80 = .ok (.iload_n 2, 1) := by decide +kernel
theorem dX6_biscuitOf_81 : decode cX6_biscuitOf 81 = .ok (.bipush 10, 2) := by decide +kernel
theorem dX6_biscuitOf_83 : decode cX6_biscuitOf 83 = .ok (.if_icmp .lt 14, 3) := by decide +kernel
theorem dX6_biscuitOf_86 : decode cX6_biscuitOf 86 = .ok (.aload_n 3, 1) := by decide +kernel
theorem dX6_biscuitOf_87 : decode cX6_biscuitOf 87 = .ok (.iload_n 2, 1) := by decide +kernel
theorem dX6_biscuitOf_88 : decode cX6_biscuitOf 88 = .ok (.bipush 10, 2) := by decide +kernel
theorem dX6_biscuitOf_90 : decode cX6_biscuitOf 90 = .ok (.isub, 1) := by decide +kernel
theorem dX6_biscuitOf_91 : decode cX6_biscuitOf 91 = .ok (.invokevirtual 171, 3) := by decide +kernel
theorem dX6_biscuitOf_94 : decode cX6_biscuitOf 94 = .ok (.ifCond .ne 9, 3) := by decide +kernel
theorem dX6_biscuitOf_97 : decode cX6_biscuitOf 97 = .ok (.aload_n 0, 1) := by decide +kernel
theorem dX6_biscuitOf_98 : decode cX6_biscuitOf 98 = .ok (.iconst 5, 1) := by decide +kernel
theorem dX6_biscuitOf_99 : decode cX6_biscuitOf 99 = .ok (.invokevirtual 83, 3) := by decide +kernel
theorem dX6_biscuitOf_102 : decode cX6_biscuitOf 102 = .ok (.ireturn, 1) := by decide +kernel
theorem dX6_biscuitOf_103 : decode cX6_biscuitOf 103 = .ok (.aload_n 3, 1) := by decide +kernel
theorem dX6_biscuitOf_104 : decode cX6_biscuitOf 104 = .ok (.getfield 174, 3) := by decide +kernel
theorem dX6_biscuitOf_107 : decode cX6_biscuitOf 107 = .ok (.iload_n 2, 1) := by decide +kernel
theorem dX6_biscuitOf_108 : decode cX6_biscuitOf 108 = .ok (.bipush 10, 2) := by decide +kernel
theorem dX6_biscuitOf_110 : decode cX6_biscuitOf 110 = .ok (.isub, 1) := by decide +kernel
theorem dX6_biscuitOf_111 : decode cX6_biscuitOf 111 = .ok (.iaload, 1) := by decide +kernel
theorem dX6_biscuitOf_112 : decode cX6_biscuitOf 112 = .ok (.ireturn, 1) := by decide +kernel
theorem dX6_wet_0 : decode cX6_wet 0 = .ok (.aload_n 0, 1) := by decide +kernel
theorem dX6_wet_1 : decode cX6_wet 1 = .ok (.iload_n 1, 1) := by decide +kernel
theorem dX6_wet_2 : decode cX6_wet 2 = .ok (.iload_n 2, 1) := by decide +kernel
theorem dX6_wet_3 : decode cX6_wet 3 = .ok (.invokevirtual 177, 3) := by decide +kernel
theorem dX6_wet_6 : decode cX6_wet 6 = .ok (.ifCond .ne 9, 3) := by decide +kernel
theorem dX6_wet_9 : decode cX6_wet 9 = .ok (.aload_n 0, 1) := by decide +kernel
theorem dX6_wet_10 : decode cX6_wet 10 = .ok (.iconst 1, 1) := by decide +kernel
theorem dX6_wet_11 : decode cX6_wet 11 = .ok (.invokevirtual 83, 3) := by decide +kernel
theorem dX6_wet_14 : decode cX6_wet 14 = .ok (.ireturn, 1) := by decide +kernel
theorem dX6_wet_15 : decode cX6_wet 15 = .ok (.iload_n 3, 1) := by decide +kernel
theorem dX6_wet_16 : decode cX6_wet 16 = .ok (.iconst 0, 1) := by decide +kernel
theorem dX6_wet_17 : decode cX6_wet 17 = .ok (.bipush 99, 2) := by decide +kernel
theorem dX6_wet_19 : decode cX6_wet 19 = .ok (.invokestatic 87, 3) := by decide +kernel
theorem dX6_wet_22 : decode cX6_wet 22 = .ok (.ifCond .ne 10, 3) := by decide +kernel
theorem dX6_wet_25 : decode cX6_wet 25 = .ok (.aload_n 0, 1) := by decide +kernel
theorem dX6_wet_26 : decode cX6_wet 26 = .ok (.bipush 6, 2) := by decide +kernel
theorem dX6_wet_28 : decode cX6_wet 28 = .ok (.invokevirtual 83, 3) := by decide +kernel
theorem dX6_wet_31 : decode cX6_wet 31 = .ok (.ireturn, 1) := by decide +kernel
theorem dX6_wet_32 : decode cX6_wet 32 = .ok (.aload_n 0, 1) := by decide +kernel
theorem dX6_wet_33 : decode cX6_wet 33 = .ok (.getfield 18, 3) := by decide +kernel
theorem dX6_wet_36 : decode cX6_wet 36 = .ok (.getfield 141, 3) := by decide +kernel
theorem dX6_wet_39 : decode cX6_wet 39 = .ok (.iload_n 1, 1) := by decide +kernel
theorem dX6_wet_40 : decode cX6_wet 40 = .ok (.aaload, 1) := by decide +kernel
theorem dX6_wet_41 : decode cX6_wet 41 = .ok (.getfield 174, 3) := by decide +kernel
theorem dX6_wet_44 : decode cX6_wet 44 = .ok (.iload_n 2, 1) := by decide +kernel
theorem dX6_wet_45 : decode cX6_wet 45 = .ok (.iaload, 1) := by decide +kernel
theorem dX6_wet_46 : decode cX6_wet 46 = .ok (.istore 4, 2) := by decide +kernel
theorem dX6_wet_48 : decode cX6_wet 48 = .ok (.aload_n 0, 1) := by decide +kernel
theorem dX6_wet_49 : decode cX6_wet 49 = .ok (.getfield 18, 3) := by decide +kernel
theorem dX6_wet_52 : decode cX6_wet 52 = .ok (.getfield 141, 3) := by decide +kernel
theorem dX6_wet_55 : decode cX6_wet 55 = .ok (.iload_n 1, 1) := by decide +kernel
theorem dX6_wet_56 : decode cX6_wet 56 = .ok (.aaload, 1) := by decide +kernel
theorem dX6_wet_57 : decode cX6_wet 57 = .ok (.getfield 174, 3) := by decide +kernel
theorem dX6_wet_60 : decode cX6_wet 60 = .ok (.iload_n 2, 1) := by decide +kernel
theorem dX6_wet_61 : decode cX6_wet 61 = .ok (.iload_n 3, 1) := by decide +kernel
theorem dX6_wet_62 : decode cX6_wet 62 = .ok (.iastore, 1) := by decide +kernel
theorem dX6_wet_63 : decode cX6_wet 63 = .ok (.iload 4, 2) := by decide +kernel
theorem dX6_wet_65 : decode cX6_wet 65 = .ok (.ireturn, 1) := by decide +kernel
theorem dX6_ask_0 : decode cX6_ask 0 = .ok (.iload_n 1, 1) := by decide +kernel
theorem dX6_ask_1 : decode cX6_ask 1 = .ok (.ifCond .ne 32, 3) := by decide +kernel
theorem dX6_ask_4 : decode cX6_ask 4 = .ok (.iload_n 2, 1) := by decide +kernel
theorem dX6_ask_5 : decode cX6_ask 5 = .ok (.iconst 0, 1) := by decide +kernel
theorem dX6_ask_6 : decode cX6_ask 6 = .ok (.bipush 99, 2) := by decide +kernel
theorem dX6_ask_8 : decode cX6_ask 8 = .ok (.invokestatic 87, 3) := by decide +kernel
theorem dX6_ask_11 : decode cX6_ask 11 = .ok (.ifCond .eq 22, 3) := by decide +kernel
theorem dX6_ask_14 : decode cX6_ask 14 = .ok (.aload_n 0, 1) := by decide +kernel
theorem dX6_ask_15 : decode cX6_ask 15 = .ok (.getfield 18, 3) := by decide +kernel
theorem dX6_ask_18 : decode cX6_ask 18 = .ok (.getfield 181, 3) := by decide +kernel
theorem dX6_ask_21 : decode cX6_ask 21 = .ok (.istore_n 3, 1) := by decide +kernel
theorem dX6_ask_22 : decode cX6_ask 22 = .ok (.aload_n 0, 1) := by decide +kernel
theorem dX6_ask_23 : decode cX6_ask 23 = .ok (.getfield 18, 3) := by decide +kernel
theorem dX6_ask_26 : decode cX6_ask 26 = .ok (.iload_n 2, 1) := by decide +kernel
theorem dX6_ask_27 : decode cX6_ask 27 = .ok (.putfield 181, 3) := by decide +kernel
theorem dX6_ask_30 : decode cX6_ask 30 = .ok (.goto 79, 3) := by decide +kernel
theorem dX6_ask_33 : decode cX6_ask 33 = .ok (.iload_n 1, 1) := by decide +kernel
theorem dX6_ask_34 : decode cX6_ask 34 = .ok (.iconst 1, 1) := by decide +kernel
theorem dX6_ask_35 : decode cX6_ask 35 = .ok (.if_icmp .ne 32, 3) := by decide +kernel
theorem dX6_ask_38 : decode cX6_ask 38 = .ok (.iload_n 2, 1) := by decide +kernel
theorem dX6_ask_39 : decode cX6_ask 39 = .ok (.iconst 1, 1) := by decide +kernel
theorem dX6_ask_40 : decode cX6_ask 40 = .ok (.bipush 99, 2) := by decide +kernel
theorem dX6_ask_42 : decode cX6_ask 42 = .ok (.invokestatic 87, 3) := by decide +kernel
theorem dX6_ask_45 : decode cX6_ask 45 = .ok (.ifCond .eq 22, 3) := by decide +kernel
theorem dX6_ask_48 : decode cX6_ask 48 = .ok (.aload_n 0, 1) := by decide +kernel
theorem dX6_ask_49 : decode cX6_ask 49 = .ok (.getfield 18, 3) := by decide +kernel
theorem dX6_ask_52 : decode cX6_ask 52 = .ok (.getfield 184, 3) := by decide +kernel
theorem dX6_ask_55 : decode cX6_ask 55 = .ok (.istore_n 3, 1) := by decide +kernel
theorem dX6_ask_56 : decode cX6_ask 56 = .ok (.aload_n 0, 1) := by decide +kernel
theorem dX6_ask_57 : decode cX6_ask 57 = .ok (.getfield 18, 3) := by decide +kernel
theorem dX6_ask_60 : decode cX6_ask 60 = .ok (.iload_n 2, 1) := by decide +kernel
theorem dX6_ask_61 : decode cX6_ask 61 = .ok (.putfield 184, 3) := by decide +kernel
theorem dX6_ask_64 : decode cX6_ask 64 = .ok (.goto 45, 3) := by decide +kernel
theorem dX6_ask_67 : decode cX6_ask 67 = .ok (.iload_n 1, 1) := by decide +kernel
theorem dX6_ask_68 : decode cX6_ask 68 = .ok (.iconst 2, 1) := by decide +kernel
theorem dX6_ask_69 : decode cX6_ask 69 = .ok (.if_icmp .ne 33, 3) := by decide +kernel
theorem dX6_ask_72 : decode cX6_ask 72 = .ok (.iload_n 2, 1) := by decide +kernel
theorem dX6_ask_73 : decode cX6_ask 73 = .ok (.iconst 0, 1) := by decide +kernel
theorem dX6_ask_74 : decode cX6_ask 74 = .ok (.sipush 9999, 3) := by decide +kernel
theorem dX6_ask_77 : decode cX6_ask 77 = .ok (.invokestatic 87, 3) := by decide +kernel
theorem dX6_ask_80 : decode cX6_ask 80 = .ok (.ifCond .eq 22, 3) := by decide +kernel
theorem dX6_ask_83 : decode cX6_ask 83 = .ok (.aload_n 0, 1) := by decide +kernel
theorem dX6_ask_84 : decode cX6_ask 84 = .ok (.getfield 18, 3) := by decide +kernel
theorem dX6_ask_87 : decode cX6_ask 87 = .ok (.getfield 187, 3) := by decide +kernel
theorem dX6_ask_90 : decode cX6_ask 90 = .ok (.istore_n 3, 1) := by decide +kernel
theorem dX6_ask_91 : decode cX6_ask 91 = .ok (.aload_n 0, 1) := by decide +kernel
theorem dX6_ask_92 : decode cX6_ask 92 = .ok (.getfield 18, 3) := by decide +kernel
theorem dX6_ask_95 : decode cX6_ask 95 = .ok (.iload_n 2, 1) := by decide +kernel
theorem dX6_ask_96 : decode cX6_ask 96 = .ok (.putfield 187, 3) := by decide +kernel
theorem dX6_ask_99 : decode cX6_ask 99 = .ok (.goto 10, 3) := by decide +kernel
theorem dX6_ask_102 : decode cX6_ask 102 = .ok (.aload_n 0, 1) := by decide +kernel
theorem dX6_ask_103 : decode cX6_ask 103 = .ok (.bipush 6, 2) := by decide +kernel
theorem dX6_ask_105 : decode cX6_ask 105 = .ok (.invokevirtual 83, 3) := by decide +kernel
theorem dX6_ask_108 : decode cX6_ask 108 = .ok (.ireturn, 1) := by decide +kernel
theorem dX6_ask_109 : decode cX6_ask 109 = .ok (.iload_n 3, 1) := by decide +kernel
theorem dX6_ask_110 : decode cX6_ask 110 = .ok (.ireturn, 1) := by decide +kernel
theorem dX6_worthOf_0 : decode cX6_worthOf 0 = .ok (.iload_n 1, 1) := by decide +kernel
theorem dX6_worthOf_1 : decode cX6_worthOf 1 = .ok (.iconst 0, 1) := by decide +kernel
theorem dX6_worthOf_2 : decode cX6_worthOf 2 = .ok (.bipush 9, 2) := by decide +kernel
theorem dX6_worthOf_4 : decode cX6_worthOf 4 = .ok (.invokestatic 87, 3) := by decide +kernel
theorem dX6_worthOf_7 : decode cX6_worthOf 7 = .ok (.ifCond .eq 13, 3) := by decide +kernel
theorem dX6_worthOf_10 : decode cX6_worthOf 10 = .ok (.iload_n 2, 1) := by decide +kernel
theorem dX6_worthOf_11 : decode cX6_worthOf 11 = .ok (.iconst 0, 1) := by decide +kernel
theorem dX6_worthOf_12 : decode cX6_worthOf 12 = .ok (.bipush 99, 2) := by decide +kernel
theorem dX6_worthOf_14 : decode cX6_worthOf 14 = .ok (.invokestatic 87, 3) := by decide +kernel
theorem dX6_worthOf_17 : decode cX6_worthOf 17 = .ok (.ifCond .ne 10, 3) := by decide +kernel
theorem dX6_worthOf_20 : decode cX6_worthOf 20 = .ok (.aload_n 0, 1) := by decide +kernel
theorem dX6_worthOf_21 : decode cX6_worthOf 21 = .ok (.bipush 6, 2) := by decide +kernel
theorem dX6_worthOf_23 : decode cX6_worthOf 23 = .ok (.invokevirtual 83, 3) := by decide +kernel
theorem dX6_worthOf_26 : decode cX6_worthOf 26 = .ok (.ireturn, 1) := by decide +kernel
theorem dX6_worthOf_27 : decode cX6_worthOf 27 = .ok (.aload_n 0, 1) := by decide +kernel
theorem dX6_worthOf_28 : decode cX6_worthOf 28 = .ok (.getfield 18, 3) := by decide +kernel
theorem dX6_worthOf_31 : decode cX6_worthOf 31 = .ok (.getfield 190, 3) := by decide +kernel
theorem dX6_worthOf_34 : decode cX6_worthOf 34 = .ok (.iload_n 1, 1) := by decide +kernel
theorem dX6_worthOf_35 : decode cX6_worthOf 35 = .ok (.iaload, 1) := by decide +kernel
theorem dX6_worthOf_36 : decode cX6_worthOf 36 = .ok (.istore_n 3, 1) := by decide +kernel
theorem dX6_worthOf_37 : decode cX6_worthOf 37 = .ok (.aload_n 0, 1) := by decide +kernel
theorem dX6_worthOf_38 : decode cX6_worthOf 38 = .ok (.getfield 18, 3) := by decide +kernel
theorem dX6_worthOf_41 : decode cX6_worthOf 41 = .ok (.getfield 190, 3) := by decide +kernel
theorem dX6_worthOf_44 : decode cX6_worthOf 44 = .ok (.iload_n 1, 1) := by decide +kernel
theorem dX6_worthOf_45 : decode cX6_worthOf 45 = .ok (.iload_n 2, 1) := by decide +kernel
theorem dX6_worthOf_46 : decode cX6_worthOf 46 = .ok (.iastore, 1) := by decide +kernel
theorem dX6_worthOf_47 : decode cX6_worthOf 47 = .ok (.iload_n 3, 1) := by decide +kernel
theorem dX6_worthOf_48 : decode cX6_worthOf 48 = .ok (.ireturn, 1) := by decide +kernel
theorem dX6_table_0 : decode cX6_table 0 = .ok (.aload_n 0, 1) := by decide +kernel
theorem dX6_table_1 : decode cX6_table 1 = .ok (.iload_n 1, 1) := by decide +kernel
theorem dX6_table_2 : decode cX6_table 2 = .ok (.invokevirtual 95, 3) := by decide +kernel
theorem dX6_table_5 : decode cX6_table 5 = .ok (.istore_n 2, 1) := by decide +kernel
theorem dX6_table_6 : decode cX6_table 6 = .ok (.iload_n 2, 1) := by decide +kernel
theorem dX6_table_7 : decode cX6_table 7 = .ok (.ifCond .eq 9, 3) := by decide +kernel
theorem dX6_table_10 : decode cX6_table 10 = .ok (.aload_n 0, 1) := by decide +kernel
theorem dX6_table_11 : decode cX6_table 11 = .ok (.iload_n 2, 1) := by decide +kernel
theorem dX6_table_12 : decode cX6_table 12 = .ok (.invokevirtual 83, 3) := by decide +kernel
theorem dX6_table_15 : decode cX6_table 15 = .ok (.ireturn, 1) := by decide +kernel
theorem dX6_table_16 : decode cX6_table 16 = .ok (.aload_n 0, 1) := by decide +kernel
theorem dX6_table_17 : decode cX6_table 17 = .ok (.getfield 25, 3) := by decide +kernel
theorem dX6_table_20 : decode cX6_table 20 = .ok (.aload_n 0, 1) := by decide +kernel
theorem dX6_table_21 : decode cX6_table 21 = .ok (.getfield 18, 3) := by decide +kernel
theorem dX6_table_24 : decode cX6_table 24 = .ok (.invokevirtual 193, 3) := by decide +kernel
theorem dX6_table_27 : decode cX6_table 27 = .ok (.aload_n 0, 1) := by decide +kernel
theorem dX6_table_28 : decode cX6_table 28 = .ok (.getfield 43, 3) := by decide +kernel
theorem dX6_table_31 : decode cX6_table 31 = .ok (.aload_n 0, 1) := by decide +kernel
theorem dX6_table_32 : decode cX6_table 32 = .ok (.getfield 11, 3) := by decide +kernel
theorem dX6_table_35 : decode cX6_table 35 = .ok (.iload_n 1, 1) := by decide +kernel
theorem dX6_table_36 : decode cX6_table 36 = .ok (.aaload, 1) := by decide +kernel
theorem dX6_table_37 : decode cX6_table 37 = .ok (.invokevirtual 197, 3) := by decide +kernel
theorem dX6_table_40 : decode cX6_table 40 = .ok (.istore_n 3, 1) := by decide +kernel
theorem dX6_table_41 : decode cX6_table 41 = .ok (.aload_n 0, 1) := by decide +kernel
theorem dX6_table_42 : decode cX6_table 42 = .ok (.aload_n 0, 1) := by decide +kernel
theorem dX6_table_43 : decode cX6_table 43 = .ok (.getfield 43, 3) := by decide +kernel
theorem dX6_table_46 : decode cX6_table 46 = .ok (.getfield 201, 3) := by decide +kernel
theorem dX6_table_49 : decode cX6_table 49 = .ok (.putfield 74, 3) := by decide +kernel
theorem dX6_table_52 : decode cX6_table 52 = .ok (.aload_n 0, 1) := by decide +kernel
theorem dX6_table_53 : decode cX6_table 53 = .ok (.getfield 74, 3) := by decide +kernel
theorem dX6_table_56 : decode cX6_table 56 = .ok (.iconst (-1), 1) := by decide +kernel
theorem dX6_table_57 : decode cX6_table 57 = .ok (.if_icmp .eq 10, 3) := by decide +kernel
theorem dX6_table_60 : decode cX6_table 60 = .ok (.aload_n 0, 1) := by decide +kernel
theorem dX6_table_61 : decode cX6_table 61 = .ok (.bipush 6, 2) := by decide +kernel
theorem dX6_table_63 : decode cX6_table 63 = .ok (.invokevirtual 83, 3) := by decide +kernel
theorem dX6_table_66 : decode cX6_table 66 = .ok (.ireturn, 1) := by decide +kernel
theorem dX6_table_67 : decode cX6_table 67 = .ok (.aload_n 0, 1) := by decide +kernel
theorem dX6_table_68 : decode cX6_table 68 = .ok (.getfield 18, 3) := by decide +kernel
theorem dX6_table_71 : decode cX6_table 71 = .ok (.aload_n 0, 1) := by decide +kernel
theorem dX6_table_72 : decode cX6_table 72 = .ok (.getfield 25, 3) := by decide +kernel
theorem dX6_table_75 : decode cX6_table 75 = .ok (.invokevirtual 193, 3) := by decide +kernel
theorem dX6_table_78 : decode cX6_table 78 = .ok (.iload_n 3, 1) := by decide +kernel
theorem dX6_table_79 : decode cX6_table 79 = .ok (.ireturn, 1) := by decide +kernel
theorem dX6_fault_0 : decode cX6_fault 0 = .ok (.aload_n 0, 1) := by decide +kernel
theorem dX6_fault_1 : decode cX6_fault 1 = .ok (.getfield 74, 3) := by decide +kernel
theorem dX6_fault_4 : decode cX6_fault 4 = .ok (.ireturn, 1) := by decide +kernel
theorem dX6_soak_0 : decode cX6_soak 0 = .ok (.aload_n 0, 1) := by decide +kernel
theorem dX6_soak_1 : decode cX6_soak 1 = .ok (.iload_n 1, 1) := by decide +kernel
theorem dX6_soak_2 : decode cX6_soak 2 = .ok (.iload_n 2, 1) := by decide +kernel
theorem dX6_soak_3 : decode cX6_soak 3 = .ok (.invokevirtual 177, 3) := by decide +kernel
theorem dX6_soak_6 : decode cX6_soak 6 = .ok (.ifCond .ne 9, 3) := by decide +kernel
theorem dX6_soak_9 : decode cX6_soak 9 = .ok (.aload_n 0, 1) := by decide +kernel
theorem dX6_soak_10 : decode cX6_soak 10 = .ok (.iconst 1, 1) := by decide +kernel
theorem dX6_soak_11 : decode cX6_soak 11 = .ok (.invokevirtual 83, 3) := by decide +kernel
theorem dX6_soak_14 : decode cX6_soak 14 = .ok (.ireturn, 1) := by decide +kernel
theorem dX6_soak_15 : decode cX6_soak 15 = .ok (.aload_n 0, 1) := by decide +kernel
theorem dX6_soak_16 : decode cX6_soak 16 = .ok (.getfield 18, 3) := by decide +kernel
theorem dX6_soak_19 : decode cX6_soak 19 = .ok (.getfield 141, 3) := by decide +kernel
theorem dX6_soak_22 : decode cX6_soak 22 = .ok (.iload_n 1, 1) := by decide +kernel
theorem dX6_soak_23 : decode cX6_soak 23 = .ok (.aaload, 1) := by decide +kernel
theorem dX6_soak_24 : decode cX6_soak 24 = .ok (.iload_n 2, 1) := by decide +kernel
theorem dX6_soak_25 : decode cX6_soak 25 = .ok (.aload_n 0, 1) := by decide +kernel
theorem dX6_soak_26 : decode cX6_soak 26 = .ok (.getfield 18, 3) := by decide +kernel
theorem dX6_soak_29 : decode cX6_soak 29 = .ok (.getfield 181, 3) := by decide +kernel
theorem dX6_soak_32 : decode cX6_soak 32 = .ok (.invokevirtual 204, 3) := by decide +kernel
theorem dX6_soak_35 : decode cX6_soak 35 = .ok (.ireturn, 1) := by decide +kernel
theorem dX6_cellOf_0 : decode cX6_cellOf 0 = .ok (.aload_n 0, 1) := by decide +kernel
theorem dX6_cellOf_1 : decode cX6_cellOf 1 = .ok (.iload_n 1, 1) := by decide +kernel
theorem dX6_cellOf_2 : decode cX6_cellOf 2 = .ok (.iload_n 2, 1) := by decide +kernel
theorem dX6_cellOf_3 : decode cX6_cellOf 3 = .ok (.invokevirtual 177, 3) := by decide +kernel
theorem dX6_cellOf_6 : decode cX6_cellOf 6 = .ok (.ifCond .ne 13, 3) := by decide +kernel
theorem dX6_cellOf_9 : decode cX6_cellOf 9 = .ok (.aload_n 0, 1) := by decide +kernel
theorem dX6_cellOf_10 : decode cX6_cellOf 10 = .ok (.iconst 1, 1) := by decide +kernel
theorem dX6_cellOf_11 : decode cX6_cellOf 11 = .ok (.invokevirtual 83, 3) := by decide +kernel
theorem dX6_cellOf_14 : decode cX6_cellOf 14 = .ok (.sipush 1000, 3) := by decide +kernel
theorem dX6_cellOf_17 : decode cX6_cellOf 17 = .ok (.isub, 1) := by decide +kernel
theorem dX6_cellOf_18 : decode cX6_cellOf 18 = .ok (.ireturn, 1) := by decide +kernel
theorem dX6_cellOf_19 : decode cX6_cellOf 19 = .ok (.iload_n 3, 1) := by decide +kernel
theorem dX6_cellOf_20 : decode cX6_cellOf 20 = .ok (.ifCond .ne 17, 3) := by decide +kernel
theorem dX6_cellOf_23 : decode cX6_cellOf 23 = .ok (.aload_n 0, 1) := by decide +kernel
theorem dX6_cellOf_24 : decode cX6_cellOf 24 = .ok (.getfield 18, 3) := by decide +kernel
theorem dX6_cellOf_27 : decode cX6_cellOf 27 = .ok (.getfield 141, 3) := by decide +kernel
theorem dX6_cellOf_30 : decode cX6_cellOf 30 = .ok (.iload_n 1, 1) := by decide +kernel
theorem dX6_cellOf_31 : decode cX6_cellOf 31 = .ok (.aaload, 1) := by decide +kernel
theorem dX6_cellOf_32 : decode cX6_cellOf 32 = .ok (.iload_n 2, 1) := by decide +kernel
theorem dX6_cellOf_33 : decode cX6_cellOf 33 = .ok (.invokevirtual 208, 3) := by decide +kernel
theorem dX6_cellOf_36 : decode cX6_cellOf 36 = .ok (.ireturn, 1) := by decide +kernel
theorem dX6_cellOf_37 : decode cX6_cellOf 37 = .ok (.iload_n 3, 1) := by decide +kernel
theorem dX6_cellOf_38 : decode cX6_cellOf 38 = .ok (.iconst 1, 1) := by decide +kernel
theorem dX6_cellOf_39 : decode cX6_cellOf 39 = .ok (.if_icmp .ne 17, 3) := by decide +kernel
theorem dX6_cellOf_42 : decode cX6_cellOf 42 = .ok (.aload_n 0, 1) := by decide +kernel
theorem dX6_cellOf_43 : decode cX6_cellOf 43 = .ok (.getfield 18, 3) := by decide +kernel
theorem dX6_cellOf_46 : decode cX6_cellOf 46 = .ok (.getfield 141, 3) := by decide +kernel
theorem dX6_cellOf_49 : decode cX6_cellOf 49 = .ok (.iload_n 1, 1) := by decide +kernel
theorem dX6_cellOf_50 : decode cX6_cellOf 50 = .ok (.aaload, 1) := by decide +kernel
theorem dX6_cellOf_51 : decode cX6_cellOf 51 = .ok (.iload_n 2, 1) := by decide +kernel
theorem dX6_cellOf_52 : decode cX6_cellOf 52 = .ok (.invokevirtual 211, 3) := by decide +kernel
theorem dX6_cellOf_55 : decode cX6_cellOf 55 = .ok (.ireturn, 1) := by decide +kernel
theorem dX6_cellOf_56 : decode cX6_cellOf 56 = .ok (.aload_n 0, 1) := by decide +kernel
theorem dX6_cellOf_57 : decode cX6_cellOf 57 = .ok (.iconst 5, 1) := by decide +kernel
theorem dX6_cellOf_58 : decode cX6_cellOf 58 = .ok (.invokevirtual 83, 3) := by decide +kernel
theorem dX6_cellOf_61 : decode cX6_cellOf 61 = .ok (.sipush 1000, 3) := by decide +kernel
theorem dX6_cellOf_64 : decode cX6_cellOf 64 = .ok (.isub, 1) := by decide +kernel
theorem dX6_cellOf_65 : decode cX6_cellOf 65 = .ok (.ireturn, 1) := by decide +kernel
theorem dX6_breaks_0 : decode cX6_breaks 0 = .ok (.aload_n 0, 1) := by decide +kernel
theorem dX6_breaks_1 : decode cX6_breaks 1 = .ok (.getfield 18, 3) := by decide +kernel
theorem dX6_breaks_4 : decode cX6_breaks 4 = .ok (.iload_n 1, 1) := by decide +kernel
theorem dX6_breaks_5 : decode cX6_breaks 5 = .ok (.invokevirtual 123, 3) := by decide +kernel
theorem dX6_breaks_8 : decode cX6_breaks 8 = .ok (.ifCond .ne 12, 3) := by decide +kernel
theorem dX6_breaks_11 : decode cX6_breaks 11 = .ok (.aload_n 0, 1) := by decide +kernel
theorem dX6_breaks_12 : decode cX6_breaks 12 = .ok (.iconst 1, 1) := by decide +kernel
theorem dX6_breaks_13 : decode cX6_breaks 13 = .ok (.invokevirtual 83, 3) := by decide +kernel
theorem dX6_breaks_16 : decode cX6_breaks 16 = .ok (.bipush 10, 2) := by decide +kernel
theorem dX6_breaks_18 : decode cX6_breaks 18 = .ok (.isub, 1) := by decide +kernel
theorem dX6_breaks_19 : decode cX6_breaks 19 = .ok (.ireturn, 1) := by decide +kernel
theorem dX6_breaks_20 : decode cX6_breaks 20 = .ok (.aload_n 0, 1) := by decide +kernel
theorem dX6_breaks_21 : decode cX6_breaks 21 = .ok (.getfield 18, 3) := by decide +kernel
theorem dX6_breaks_24 : decode cX6_breaks 24 = .ok (.getfield 141, 3) := by decide +kernel
theorem dX6_breaks_27 : decode cX6_breaks 27 = .ok (.iload_n 1, 1) := by decide +kernel
theorem dX6_breaks_28 : decode cX6_breaks 28 = .ok (.aaload, 1) := by decide +kernel
theorem dX6_breaks_29 : decode cX6_breaks 29 = .ok (.invokevirtual 214, 3) := by decide +kernel
theorem dX6_breaks_32 : decode cX6_breaks 32 = .ok (.ireturn, 1) := by decide +kernel
theorem dX6_left_0 : decode cX6_left 0 = .ok (.aload_n 0, 1) := by decide +kernel
theorem dX6_left_1 : decode cX6_left 1 = .ok (.iload_n 1, 1) := by decide +kernel
theorem dX6_left_2 : decode cX6_left 2 = .ok (.iload_n 2, 1) := by decide +kernel
theorem dX6_left_3 : decode cX6_left 3 = .ok (.iload_n 3, 1) := by decide +kernel
theorem dX6_left_4 : decode cX6_left 4 = .ok (.iload 4, 2) := by decide +kernel
theorem dX6_left_6 : decode cX6_left 6 = .ok (.invokevirtual 217, 3) := by decide +kernel
theorem dX6_left_9 : decode cX6_left 9 = .ok (.istore 5, 2) := by decide +kernel
theorem dX6_left_11 : decode cX6_left 11 = .ok (.iload 5, 2) := by decide +kernel
theorem dX6_left_13 : decode cX6_left 13 = .ok (.ifCond .eq 10, 3) := by decide +kernel
theorem dX6_left_16 : decode cX6_left 16 = .ok (.aload_n 0, 1) := by decide +kernel
theorem dX6_left_17 : decode cX6_left 17 = .ok (.iload 5, 2) := by decide +kernel
theorem dX6_left_19 : decode cX6_left 19 = .ok (.invokevirtual 83, 3) := by decide +kernel
theorem dX6_left_22 : decode cX6_left 22 = .ok (.ireturn, 1) := by decide +kernel
theorem dX6_left_23 : decode cX6_left 23 = .ok (.aload_n 0, 1) := by decide +kernel
theorem dX6_left_24 : decode cX6_left 24 = .ok (.aload_n 0, 1) := by decide +kernel
theorem dX6_left_25 : decode cX6_left 25 = .ok (.getfield 18, 3) := by decide +kernel
theorem dX6_left_28 : decode cX6_left 28 = .ok (.getfield 141, 3) := by decide +kernel
theorem dX6_left_31 : decode cX6_left 31 = .ok (.iload_n 1, 1) := by decide +kernel
theorem dX6_left_32 : decode cX6_left 32 = .ok (.aaload, 1) := by decide +kernel
theorem dX6_left_33 : decode cX6_left 33 = .ok (.iload_n 2, 1) := by decide +kernel
theorem dX6_left_34 : decode cX6_left 34 = .ok (.iload_n 3, 1) := by decide +kernel
theorem dX6_left_35 : decode cX6_left 35 = .ok (.iload 4, 2) := by decide +kernel
theorem dX6_left_37 : decode cX6_left 37 = .ok (.invokevirtual 221, 3) := by decide +kernel
theorem dX6_left_40 : decode cX6_left 40 = .ok (.aload_n 0, 1) := by decide +kernel
theorem dX6_left_41 : decode cX6_left 41 = .ok (.getfield 31, 3) := by decide +kernel
theorem dX6_left_44 : decode cX6_left 44 = .ok (.getfield 225, 3) := by decide +kernel
theorem dX6_left_47 : decode cX6_left 47 = .ok (.getfield 162, 3) := by decide +kernel
theorem dX6_left_50 : decode cX6_left 50 = .ok (.ireturn, 1) := by decide +kernel
theorem dX6_wetness_0 : decode cX6_wetness 0 = .ok (.aload_n 0, 1) := by decide +kernel
theorem dX6_wetness_1 : decode cX6_wetness 1 = .ok (.getfield 18, 3) := by decide +kernel
theorem dX6_wetness_4 : decode cX6_wetness 4 = .ok (.iload_n 1, 1) := by decide +kernel
theorem dX6_wetness_5 : decode cX6_wetness 5 = .ok (.invokevirtual 123, 3) := by decide +kernel
theorem dX6_wetness_8 : decode cX6_wetness 8 = .ok (.ifCond .ne 9, 3) := by decide +kernel
theorem dX6_wetness_11 : decode cX6_wetness 11 = .ok (.aload_n 0, 1) := by decide +kernel
theorem dX6_wetness_12 : decode cX6_wetness 12 = .ok (.iconst 1, 1) := by decide +kernel
theorem dX6_wetness_13 : decode cX6_wetness 13 = .ok (.invokevirtual 83, 3) := by decide +kernel
theorem dX6_wetness_16 : decode cX6_wetness 16 = .ok (.ireturn, 1) := by decide +kernel
theorem dX6_wetness_17 : decode cX6_wetness 17 = .ok (.iload 5, 2) := by decide +kernel
theorem dX6_wetness_19 : decode cX6_wetness 19 = .ok (.ifCond .ge 9, 3) := by decide +kernel
theorem dX6_wetness_22 : decode cX6_wetness 22 = .ok (.aload_n 0, 1) := by decide +kernel
theorem dX6_wetness_23 : decode cX6_wetness 23 = .ok (.iconst 5, 1) := by decide +kernel
theorem dX6_wetness_24 : decode cX6_wetness 24 = .ok (.invokevirtual 83, 3) := by decide +kernel
theorem dX6_wetness_27 : decode cX6_wetness 27 = .ok (.ireturn, 1) := by decide +kernel
theorem dX6_wetness_28 : decode cX6_wetness 28 = .ok (.iload_n 2, 1) := by decide +kernel
theorem dX6_wetness_29 : decode cX6_wetness 29 = .ok (.iload_n 3, 1) := by decide +kernel
theorem dX6_wetness_30 : decode cX6_wetness 30 = .ok (.iload 4, 2) := by decide +kernel
theorem dX6_wetness_32 : decode cX6_wetness 32 = .ok (.invokestatic 227, 3) := by decide +kernel
theorem dX6_wetness_35 : decode cX6_wetness 35 = .ok (.ifCond .ne 10, 3) := by decide +kernel
theorem dX6_wetness_38 : decode cX6_wetness 38 = .ok (.aload_n 0, 1) := by decide +kernel
theorem dX6_wetness_39 : decode cX6_wetness 39 = .ok (.bipush 6, 2) := by decide +kernel
theorem dX6_wetness_41 : decode cX6_wetness 41 = .ok (.invokevirtual 83, 3) := by decide +kernel
theorem dX6_wetness_44 : decode cX6_wetness 44 = .ok (.ireturn, 1) := by decide +kernel
theorem dX6_wetness_45 : decode cX6_wetness 45 = .ok (.aload_n 0, 1) := by decide +kernel
theorem dX6_wetness_46 : decode cX6_wetness 46 = .ok (.aload_n 0, 1) := by decide +kernel
theorem dX6_wetness_47 : decode cX6_wetness 47 = .ok (.getfield 18, 3) := by decide +kernel
theorem dX6_wetness_50 : decode cX6_wetness 50 = .ok (.getfield 141, 3) := by decide +kernel
theorem dX6_wetness_53 : decode cX6_wetness 53 = .ok (.iload_n 1, 1) := by decide +kernel
theorem dX6_wetness_54 : decode cX6_wetness 54 = .ok (.aaload, 1) := by decide +kernel
theorem dX6_wetness_55 : decode cX6_wetness 55 = .ok (.iload_n 2, 1) := by decide +kernel
theorem dX6_wetness_56 : decode cX6_wetness 56 = .ok (.iload_n 3, 1) := by decide +kernel
theorem dX6_wetness_57 : decode cX6_wetness 57 = .ok (.iload 4, 2) := by decide +kernel
theorem dX6_wetness_59 : decode cX6_wetness 59 = .ok (.invokevirtual 221, 3) := by decide +kernel
theorem dX6_wetness_62 : decode cX6_wetness 62 = .ok (.aload_n 0, 1) := by decide +kernel
theorem dX6_wetness_63 : decode cX6_wetness 63 = .ok (.getfield 31, 3) := by decide +kernel
theorem dX6_wetness_66 : decode cX6_wetness 66 = .ok (.getfield 225, 3) := by decide +kernel
theorem dX6_wetness_69 : decode cX6_wetness 69 = .ok (.iload 5, 2) := by decide +kernel
theorem dX6_wetness_71 : decode cX6_wetness 71 = .ok (.invokevirtual 171, 3) := by decide +kernel
theorem dX6_wetness_74 : decode cX6_wetness 74 = .ok (.ifCond .ne 9, 3) := by decide +kernel
theorem dX6_wetness_77 : decode cX6_wetness 77 = .ok (.aload_n 0, 1) := by decide +kernel
theorem dX6_wetness_78 : decode cX6_wetness 78 = .ok (.iconst 5, 1) := by decide +kernel
theorem dX6_wetness_79 : decode cX6_wetness 79 = .ok (.invokevirtual 83, 3) := by decide +kernel
theorem dX6_wetness_82 : decode cX6_wetness 82 = .ok (.ireturn, 1) := by decide +kernel
theorem dX6_wetness_83 : decode cX6_wetness 83 = .ok (.aload_n 0, 1) := by decide +kernel
theorem dX6_wetness_84 : decode cX6_wetness 84 = .ok (.getfield 31, 3) := by decide +kernel
theorem dX6_wetness_87 : decode cX6_wetness 87 = .ok (.getfield 225, 3) := by decide +kernel
theorem dX6_wetness_90 : decode cX6_wetness 90 = .ok (.getfield 174, 3) := by decide +kernel
theorem dX6_wetness_93 : decode cX6_wetness 93 = .ok (.iload 5, 2) := by decide +kernel
theorem dX6_wetness_95 : decode cX6_wetness 95 = .ok (.iaload, 1) := by decide +kernel
theorem dX6_wetness_96 : decode cX6_wetness 96 = .ok (.ireturn, 1) := by decide +kernel
theorem dX6_when_0 : decode cX6_when 0 = .ok (.aload_n 0, 1) := by decide +kernel
theorem dX6_when_1 : decode cX6_when 1 = .ok (.iload_n 1, 1) := by decide +kernel
theorem dX6_when_2 : decode cX6_when 2 = .ok (.iload_n 2, 1) := by decide +kernel
theorem dX6_when_3 : decode cX6_when 3 = .ok (.iload_n 3, 1) := by decide +kernel
theorem dX6_when_4 : decode cX6_when 4 = .ok (.iload 4, 2) := by decide +kernel
theorem dX6_when_6 : decode cX6_when 6 = .ok (.invokevirtual 217, 3) := by decide +kernel
theorem dX6_when_9 : decode cX6_when 9 = .ok (.istore 5, 2) := by decide +kernel
theorem dX6_when_11 : decode cX6_when 11 = .ok (.iload 5, 2) := by decide +kernel
theorem dX6_when_13 : decode cX6_when 13 = .ok (.ifCond .eq 13, 3) := by decide +kernel
theorem dX6_when_16 : decode cX6_when 16 = .ok (.aload_n 0, 1) := by decide +kernel
theorem dX6_when_17 : decode cX6_when 17 = .ok (.iload 5, 2) := by decide +kernel
theorem dX6_when_19 : decode cX6_when 19 = .ok (.invokevirtual 83, 3) := by decide +kernel
theorem dX6_when_22 : decode cX6_when 22 = .ok (.bipush 10, 2) := by decide +kernel
theorem dX6_when_24 : decode cX6_when 24 = .ok (.isub, 1) := by decide +kernel
theorem dX6_when_25 : decode cX6_when 25 = .ok (.ireturn, 1) := by decide +kernel
theorem dX6_when_26 : decode cX6_when 26 = .ok (.aload_n 0, 1) := by decide +kernel
theorem dX6_when_27 : decode cX6_when 27 = .ok (.aload_n 0, 1) := by decide +kernel
theorem dX6_when_28 : decode cX6_when 28 = .ok (.getfield 18, 3) := by decide +kernel
theorem dX6_when_31 : decode cX6_when 31 = .ok (.getfield 141, 3) := by decide +kernel
theorem dX6_when_34 : decode cX6_when 34 = .ok (.iload_n 1, 1) := by decide +kernel
theorem dX6_when_35 : decode cX6_when 35 = .ok (.aaload, 1) := by decide +kernel
theorem dX6_when_36 : decode cX6_when 36 = .ok (.iload_n 2, 1) := by decide +kernel
theorem dX6_when_37 : decode cX6_when 37 = .ok (.iload_n 3, 1) := by decide +kernel
theorem dX6_when_38 : decode cX6_when 38 = .ok (.iload 4, 2) := by decide +kernel
theorem dX6_when_40 : decode cX6_when 40 = .ok (.invokevirtual 221, 3) := by decide +kernel
theorem dX6_when_43 : decode cX6_when 43 = .ok (.aload_n 0, 1) := by decide +kernel
theorem dX6_when_44 : decode cX6_when 44 = .ok (.getfield 31, 3) := by decide +kernel
theorem dX6_when_47 : decode cX6_when 47 = .ok (.getfield 230, 3) := by decide +kernel
theorem dX6_when_50 : decode cX6_when 50 = .ok (.ireturn, 1) := by decide +kernel
theorem dX6_longest_0 : decode cX6_longest 0 = .ok (.aload_n 0, 1) := by decide +kernel
theorem dX6_longest_1 : decode cX6_longest 1 = .ok (.iload_n 1, 1) := by decide +kernel
theorem dX6_longest_2 : decode cX6_longest 2 = .ok (.iload_n 2, 1) := by decide +kernel
theorem dX6_longest_3 : decode cX6_longest 3 = .ok (.iconst 0, 1) := by decide +kernel
theorem dX6_longest_4 : decode cX6_longest 4 = .ok (.iload_n 3, 1) := by decide +kernel
theorem dX6_longest_5 : decode cX6_longest 5 = .ok (.invokevirtual 217, 3) := by decide +kernel
theorem dX6_longest_8 : decode cX6_longest 8 = .ok (.istore 4, 2) := by decide +kernel
theorem dX6_longest_10 : decode cX6_longest 10 = .ok (.iload 4, 2) := by decide +kernel
theorem dX6_longest_12 : decode cX6_longest 12 = .ok (.ifCond .eq 13, 3) := by decide +kernel
theorem dX6_longest_15 : decode cX6_longest 15 = .ok (.aload_n 0, 1) := by decide +kernel
theorem dX6_longest_16 : decode cX6_longest 16 = .ok (.iload 4, 2) := by decide +kernel
theorem dX6_longest_18 : decode cX6_longest 18 = .ok (.invokevirtual 83, 3) := by decide +kernel
theorem dX6_longest_21 : decode cX6_longest 21 = .ok (.bipush 10, 2) := by decide +kernel
theorem dX6_longest_23 : decode cX6_longest 23 = .ok (.isub, 1) := by decide +kernel
theorem dX6_longest_24 : decode cX6_longest 24 = .ok (.ireturn, 1) := by decide +kernel
theorem dX6_longest_25 : decode cX6_longest 25 = .ok (.aload_n 0, 1) := by decide +kernel
theorem dX6_longest_26 : decode cX6_longest 26 = .ok (.getfield 31, 3) := by decide +kernel
theorem dX6_longest_29 : decode cX6_longest 29 = .ok (.aload_n 0, 1) := by decide +kernel
theorem dX6_longest_30 : decode cX6_longest 30 = .ok (.getfield 18, 3) := by decide +kernel
theorem dX6_longest_33 : decode cX6_longest 33 = .ok (.getfield 141, 3) := by decide +kernel
theorem dX6_longest_36 : decode cX6_longest 36 = .ok (.iload_n 1, 1) := by decide +kernel
theorem dX6_longest_37 : decode cX6_longest 37 = .ok (.aaload, 1) := by decide +kernel
theorem dX6_longest_38 : decode cX6_longest 38 = .ok (.aload_n 0, 1) := by decide +kernel
theorem dX6_longest_39 : decode cX6_longest 39 = .ok (.getfield 18, 3) := by decide +kernel
theorem dX6_longest_42 : decode cX6_longest 42 = .ok (.getfield 181, 3) := by decide +kernel
theorem dX6_longest_45 : decode cX6_longest 45 = .ok (.invokevirtual 233, 3) := by decide +kernel
theorem dX6_longest_48 : decode cX6_longest 48 = .ok (.aload_n 0, 1) := by decide +kernel
theorem dX6_longest_49 : decode cX6_longest 49 = .ok (.getfield 31, 3) := by decide +kernel
theorem dX6_longest_52 : decode cX6_longest 52 = .ok (.iload_n 2, 1) := by decide +kernel
theorem dX6_longest_53 : decode cX6_longest 53 = .ok (.invokevirtual 237, 3) := by decide +kernel
theorem dX6_longest_56 : decode cX6_longest 56 = .ok (.iconst 0, 1) := by decide +kernel
theorem dX6_longest_57 : decode cX6_longest 57 = .ok (.istore 5, 2) := by decide +kernel
theorem dX6_longest_59 : decode cX6_longest 59 = .ok (.iload 5, 2) := by decide +kernel
theorem dX6_longest_61 : decode cX6_longest 61 = .ok (.bipush 60, 2) := by decide +kernel
theorem dX6_longest_63 : decode cX6_longest 63 = .ok (.if_icmp .gt 57, 3) := by decide +kernel
theorem dX6_longest_66 : decode cX6_longest 66 = .ok (.iload 5, 2) := by decide +kernel
theorem dX6_longest_68 : decode cX6_longest 68 = .ok (.ifCond .le 11, 3) := by decide +kernel
theorem dX6_longest_71 : decode cX6_longest 71 = .ok (.aload_n 0, 1) := by decide +kernel
theorem dX6_longest_72 : decode cX6_longest 72 = .ok (.getfield 31, 3) := by decide +kernel
theorem dX6_longest_75 : decode cX6_longest 75 = .ok (.invokevirtual 240, 3) := by decide +kernel
theorem dX6_longest_78 : decode cX6_longest 78 = .ok (.pop, 1) := by decide +kernel
theorem dX6_longest_79 : decode cX6_longest 79 = .ok (.aload_n 0, 1) := by decide +kernel
theorem dX6_longest_80 : decode cX6_longest 80 = .ok (.getfield 35, 3) := by decide +kernel
theorem dX6_longest_83 : decode cX6_longest 83 = .ok (.aload_n 0, 1) := by decide +kernel
theorem dX6_longest_84 : decode cX6_longest 84 = .ok (.getfield 31, 3) := by decide +kernel
theorem dX6_longest_87 : decode cX6_longest 87 = .ok (.invokevirtual 243, 3) := by decide +kernel
theorem dX6_longest_90 : decode cX6_longest 90 = .ok (.aload_n 0, 1) := by decide +kernel
theorem dX6_longest_91 : decode cX6_longest 91 = .ok (.getfield 35, 3) := by decide +kernel
theorem dX6_longest_94 : decode cX6_longest 94 = .ok (.iconst 0, 1) := by decide +kernel
theorem dX6_longest_95 : decode cX6_longest 95 = .ok (.iload_n 3, 1) := by decide +kernel
theorem dX6_longest_96 : decode cX6_longest 96 = .ok (.invokevirtual 246, 3) := by decide +kernel
theorem dX6_longest_99 : decode cX6_longest 99 = .ok (.aload_n 0, 1) := by decide +kernel
theorem dX6_longest_100 : decode cX6_longest 100 = .ok (.getfield 35, 3) := by decide +kernel
theorem dX6_longest_103 : decode cX6_longest 103 = .ok (.invokevirtual 249, 3) := by decide +kernel
theorem dX6_longest_106 : decode cX6_longest 106 = .ok (.ifCond .ne 8, 3) := by decide +kernel
theorem dX6_longest_109 : decode cX6_longest 109 = .ok (.iload 5, 2) := by decide +kernel
theorem dX6_longest_111 : decode cX6_longest 111 = .ok (.iconst 1, 1) := by decide +kernel
theorem dX6_longest_112 : decode cX6_longest 112 = .ok (.isub, 1) := by decide +kernel
theorem dX6_longest_113 : decode cX6_longest 113 = .ok (.ireturn, 1) := by decide +kernel
theorem dX6_longest_114 : decode cX6_longest 114 = .ok (.iinc 5 1, 3) := by decide +kernel
theorem dX6_longest_117 : decode cX6_longest 117 = .ok (.goto (-58), 3) := by decide +kernel
theorem dX6_longest_120 : decode cX6_longest 120 = .ok (.bipush 60, 2) := by decide +kernel
theorem dX6_longest_122 : decode cX6_longest 122 = .ok (.ireturn, 1) := by decide +kernel
theorem dX6_far_0 : decode cX6_far 0 = .ok (.aload_n 0, 1) := by decide +kernel
theorem dX6_far_1 : decode cX6_far 1 = .ok (.iload_n 1, 1) := by decide +kernel
theorem dX6_far_2 : decode cX6_far 2 = .ok (.iload_n 2, 1) := by decide +kernel
theorem dX6_far_3 : decode cX6_far 3 = .ok (.iload_n 3, 1) := by decide +kernel
theorem dX6_far_4 : decode cX6_far 4 = .ok (.iconst 0, 1) := by decide +kernel
theorem dX6_far_5 : decode cX6_far 5 = .ok (.invokevirtual 217, 3) := by decide +kernel
theorem dX6_far_8 : decode cX6_far 8 = .ok (.istore 4, 2) := by decide +kernel
theorem dX6_far_10 : decode cX6_far 10 = .ok (.iload 4, 2) := by decide +kernel
theorem dX6_far_12 : decode cX6_far 12 = .ok (.ifCond .eq 13, 3) := by decide +kernel
theorem dX6_far_15 : decode cX6_far 15 = .ok (.aload_n 0, 1) := by decide +kernel
theorem dX6_far_16 : decode cX6_far 16 = .ok (.iload 4, 2) := by decide +kernel
theorem dX6_far_18 : decode cX6_far 18 = .ok (.invokevirtual 83, 3) := by decide +kernel
theorem dX6_far_21 : decode cX6_far 21 = .ok (.bipush 10, 2) := by decide +kernel
theorem dX6_far_23 : decode cX6_far 23 = .ok (.isub, 1) := by decide +kernel
theorem dX6_far_24 : decode cX6_far 24 = .ok (.ireturn, 1) := by decide +kernel
theorem dX6_far_25 : decode cX6_far 25 = .ok (.aload_n 0, 1) := by decide +kernel
theorem dX6_far_26 : decode cX6_far 26 = .ok (.getfield 31, 3) := by decide +kernel
theorem dX6_far_29 : decode cX6_far 29 = .ok (.aload_n 0, 1) := by decide +kernel
theorem dX6_far_30 : decode cX6_far 30 = .ok (.getfield 18, 3) := by decide +kernel
theorem dX6_far_33 : decode cX6_far 33 = .ok (.getfield 141, 3) := by decide +kernel
theorem dX6_far_36 : decode cX6_far 36 = .ok (.iload_n 1, 1) := by decide +kernel
theorem dX6_far_37 : decode cX6_far 37 = .ok (.aaload, 1) := by decide +kernel
theorem dX6_far_38 : decode cX6_far 38 = .ok (.aload_n 0, 1) := by decide +kernel
theorem dX6_far_39 : decode cX6_far 39 = .ok (.getfield 18, 3) := by decide +kernel
theorem dX6_far_42 : decode cX6_far 42 = .ok (.getfield 181, 3) := by decide +kernel
theorem dX6_far_45 : decode cX6_far 45 = .ok (.invokevirtual 233, 3) := by decide +kernel
theorem dX6_far_48 : decode cX6_far 48 = .ok (.aload_n 0, 1) := by decide +kernel
theorem dX6_far_49 : decode cX6_far 49 = .ok (.getfield 31, 3) := by decide +kernel
theorem dX6_far_52 : decode cX6_far 52 = .ok (.iload_n 2, 1) := by decide +kernel
theorem dX6_far_53 : decode cX6_far 53 = .ok (.iload_n 3, 1) := by decide +kernel
theorem dX6_far_54 : decode cX6_far 54 = .ok (.invokevirtual 246, 3) := by decide +kernel
theorem dX6_far_57 : decode cX6_far 57 = .ok (.iconst 0, 1) := by decide +kernel
theorem dX6_far_58 : decode cX6_far 58 = .ok (.istore 5, 2) := by decide +kernel
theorem dX6_far_60 : decode cX6_far 60 = .ok (.iload 5, 2) := by decide +kernel
theorem dX6_far_62 : decode cX6_far 62 = .ok (.bipush 60, 2) := by decide +kernel
theorem dX6_far_64 : decode cX6_far 64 = .ok (.if_icmp .gt 38, 3) := by decide +kernel
theorem dX6_far_67 : decode cX6_far 67 = .ok (.iload 5, 2) := by decide +kernel
theorem dX6_far_69 : decode cX6_far 69 = .ok (.ifCond .le 12, 3) := by decide +kernel
theorem dX6_far_72 : decode cX6_far 72 = .ok (.aload_n 0, 1) := by decide +kernel
theorem dX6_far_73 : decode cX6_far 73 = .ok (.getfield 31, 3) := by decide +kernel
theorem dX6_far_76 : decode cX6_far 76 = .ok (.iconst 0, 1) := by decide +kernel
theorem dX6_far_77 : decode cX6_far 77 = .ok (.iconst 1, 1) := by decide +kernel
theorem dX6_far_78 : decode cX6_far 78 = .ok (.invokevirtual 246, 3) := by decide +kernel
theorem dX6_far_81 : decode cX6_far 81 = .ok (.aload_n 0, 1) := by decide +kernel
theorem dX6_far_82 : decode cX6_far 82 = .ok (.getfield 31, 3) := by decide +kernel
theorem dX6_far_85 : decode cX6_far 85 = .ok (.invokevirtual 249, 3) := by decide +kernel
theorem dX6_far_88 : decode cX6_far 88 = .ok (.ifCond .ne 8, 3) := by decide +kernel
theorem dX6_far_91 : decode cX6_far 91 = .ok (.iload 5, 2) := by decide +kernel
theorem dX6_far_93 : decode cX6_far 93 = .ok (.iconst 1, 1) := by decide +kernel
theorem dX6_far_94 : decode cX6_far 94 = .ok (.isub, 1) := by decide +kernel
theorem dX6_far_95 : decode cX6_far 95 = .ok (.ireturn, 1) := by decide +kernel
theorem dX6_far_96 : decode cX6_far 96 = .ok (.iinc 5 1, 3) := by decide +kernel
theorem dX6_far_99 : decode cX6_far 99 = .ok (.goto (-39), 3) := by decide +kernel
theorem dX6_far_102 : decode cX6_far 102 = .ok (.bipush 60, 2) := by decide +kernel
theorem dX6_far_104 : decode cX6_far 104 = .ok (.ireturn, 1) := by decide +kernel
theorem dX6_worth_0 : decode cX6_worth 0 = .ok (.aload_n 0, 1) := by decide +kernel
theorem dX6_worth_1 : decode cX6_worth 1 = .ok (.iload_n 1, 1) := by decide +kernel
theorem dX6_worth_2 : decode cX6_worth 2 = .ok (.iload_n 2, 1) := by decide +kernel
theorem dX6_worth_3 : decode cX6_worth 3 = .ok (.iload_n 3, 1) := by decide +kernel
theorem dX6_worth_4 : decode cX6_worth 4 = .ok (.iload 4, 2) := by decide +kernel
theorem dX6_worth_6 : decode cX6_worth 6 = .ok (.invokevirtual 217, 3) := by decide +kernel
theorem dX6_worth_9 : decode cX6_worth 9 = .ok (.istore 5, 2) := by decide +kernel
theorem dX6_worth_11 : decode cX6_worth 11 = .ok (.iload 5, 2) := by decide +kernel
theorem dX6_worth_13 : decode cX6_worth 13 = .ok (.ifCond .eq 10, 3) := by decide +kernel
theorem dX6_worth_16 : decode cX6_worth 16 = .ok (.aload_n 0, 1) := by decide +kernel
theorem dX6_worth_17 : decode cX6_worth 17 = .ok (.iload 5, 2) := by decide +kernel
theorem dX6_worth_19 : decode cX6_worth 19 = .ok (.invokevirtual 83, 3) := by decide +kernel
theorem dX6_worth_22 : decode cX6_worth 22 = .ok (.ireturn, 1) := by decide +kernel
theorem dX6_worth_23 : decode cX6_worth 23 = .ok (.aload_n 0, 1) := by decide +kernel
theorem dX6_worth_24 : decode cX6_worth 24 = .ok (.aload_n 0, 1) := by decide +kernel
theorem dX6_worth_25 : decode cX6_worth 25 = .ok (.getfield 18, 3) := by decide +kernel
theorem dX6_worth_28 : decode cX6_worth 28 = .ok (.getfield 141, 3) := by decide +kernel
theorem dX6_worth_31 : decode cX6_worth 31 = .ok (.iload_n 1, 1) := by decide +kernel
theorem dX6_worth_32 : decode cX6_worth 32 = .ok (.aaload, 1) := by decide +kernel
theorem dX6_worth_33 : decode cX6_worth 33 = .ok (.iload_n 2, 1) := by decide +kernel
theorem dX6_worth_34 : decode cX6_worth 34 = .ok (.iload_n 3, 1) := by decide +kernel
theorem dX6_worth_35 : decode cX6_worth 35 = .ok (.iload 4, 2) := by decide +kernel
theorem dX6_worth_37 : decode cX6_worth 37 = .ok (.invokevirtual 221, 3) := by decide +kernel
theorem dX6_worth_40 : decode cX6_worth 40 = .ok (.aload_n 0, 1) := by decide +kernel
theorem dX6_worth_41 : decode cX6_worth 41 = .ok (.getfield 18, 3) := by decide +kernel
theorem dX6_worth_44 : decode cX6_worth 44 = .ok (.aload_n 0, 1) := by decide +kernel
theorem dX6_worth_45 : decode cX6_worth 45 = .ok (.getfield 31, 3) := by decide +kernel
theorem dX6_worth_48 : decode cX6_worth 48 = .ok (.getfield 225, 3) := by decide +kernel
theorem dX6_worth_51 : decode cX6_worth 51 = .ok (.invokevirtual 252, 3) := by decide +kernel
theorem dX6_worth_54 : decode cX6_worth 54 = .ok (.ireturn, 1) := by decide +kernel
theorem dX6_best_0 : decode cX6_best 0 = .ok (.aload_n 0, 1) := by decide +kernel
theorem dX6_best_1 : decode cX6_best 1 = .ok (.getfield 18, 3) := by decide +kernel
theorem dX6_best_4 : decode cX6_best 4 = .ok (.iload_n 1, 1) := by decide +kernel
theorem dX6_best_5 : decode cX6_best 5 = .ok (.invokevirtual 123, 3) := by decide +kernel
theorem dX6_best_8 : decode cX6_best 8 = .ok (.ifCond .ne 9, 3) := by decide +kernel
theorem dX6_best_11 : decode cX6_best 11 = .ok (.aload_n 0, 1) := by decide +kernel
theorem dX6_best_12 : decode cX6_best 12 = .ok (.iconst 1, 1) := by decide +kernel
theorem dX6_best_13 : decode cX6_best 13 = .ok (.invokevirtual 83, 3) := by decide +kernel
theorem dX6_best_16 : decode cX6_best 16 = .ok (.ireturn, 1) := by decide +kernel
theorem dX6_best_17 : decode cX6_best 17 = .ok (.iload_n 3, 1) := by decide +kernel
theorem dX6_best_18 : decode cX6_best 18 = .ok (.iconst 0, 1) := by decide +kernel
theorem dX6_best_19 : decode cX6_best 19 = .ok (.iconst 1, 1) := by decide +kernel
theorem dX6_best_20 : decode cX6_best 20 = .ok (.invokestatic 87, 3) := by decide +kernel
theorem dX6_best_23 : decode cX6_best 23 = .ok (.ifCond .ne 9, 3) := by decide +kernel
theorem dX6_best_26 : decode cX6_best 26 = .ok (.aload_n 0, 1) := by decide +kernel
theorem dX6_best_27 : decode cX6_best 27 = .ok (.iconst 5, 1) := by decide +kernel
theorem dX6_best_28 : decode cX6_best 28 = .ok (.invokevirtual 83, 3) := by decide +kernel
theorem dX6_best_31 : decode cX6_best 31 = .ok (.ireturn, 1) := by decide +kernel
theorem dX6_best_32 : decode cX6_best 32 = .ok (.iload_n 2, 1) := by decide +kernel
theorem dX6_best_33 : decode cX6_best 33 = .ok (.iconst 0, 1) := by decide +kernel
theorem dX6_best_34 : decode cX6_best 34 = .ok (.bipush 60, 2) := by decide +kernel
theorem dX6_best_36 : decode cX6_best 36 = .ok (.invokestatic 87, 3) := by decide +kernel
theorem dX6_best_39 : decode cX6_best 39 = .ok (.ifCond .ne 10, 3) := by decide +kernel
theorem dX6_best_42 : decode cX6_best 42 = .ok (.aload_n 0, 1) := by decide +kernel
theorem dX6_best_43 : decode cX6_best 43 = .ok (.bipush 6, 2) := by decide +kernel
theorem dX6_best_45 : decode cX6_best 45 = .ok (.invokevirtual 83, 3) := by decide +kernel
theorem dX6_best_48 : decode cX6_best 48 = .ok (.ireturn, 1) := by decide +kernel
theorem dX6_best_49 : decode cX6_best 49 = .ok (.aload_n 0, 1) := by decide +kernel
theorem dX6_best_50 : decode cX6_best 50 = .ok (.getfield 57, 3) := by decide +kernel
theorem dX6_best_53 : decode cX6_best 53 = .ok (.aload_n 0, 1) := by decide +kernel
theorem dX6_best_54 : decode cX6_best 54 = .ok (.getfield 18, 3) := by decide +kernel
theorem dX6_best_57 : decode cX6_best 57 = .ok (.getfield 141, 3) := by decide +kernel
theorem dX6_best_60 : decode cX6_best 60 = .ok (.iload_n 1, 1) := by decide +kernel
theorem dX6_best_61 : decode cX6_best 61 = .ok (.aaload, 1) := by decide +kernel
theorem dX6_best_62 : decode cX6_best 62 = .ok (.invokevirtual 256, 3) := by decide +kernel
theorem dX6_best_65 : decode cX6_best 65 = .ok (.iload_n 3, 1) := by decide +kernel
theorem dX6_best_66 : decode cX6_best 66 = .ok (.iconst 1, 1) := by decide +kernel
theorem dX6_best_67 : decode cX6_best 67 = .ok (.if_icmp .ne 10, 3) := by decide +kernel
theorem dX6_best_70 : decode cX6_best 70 = .ok (.aload_n 0, 1) := by decide +kernel
theorem dX6_best_71 : decode cX6_best 71 = .ok (.getfield 57, 3) := by decide +kernel
theorem dX6_best_74 : decode cX6_best 74 = .ok (.invokevirtual 259, 3) := by decide +kernel
theorem dX6_best_77 : decode cX6_best 77 = .ok (.aload_n 0, 1) := by decide +kernel
theorem dX6_best_78 : decode cX6_best 78 = .ok (.aload_n 0, 1) := by decide +kernel
theorem dX6_best_79 : decode cX6_best 79 = .ok (.getfield 57, 3) := by decide +kernel
theorem dX6_best_82 : decode cX6_best 82 = .ok (.iload_n 2, 1) := by decide +kernel
theorem dX6_best_83 : decode cX6_best 83 = .ok (.invokevirtual 262, 3) := by decide +kernel
theorem dX6_best_86 : decode cX6_best 86 = .ok (.ireturn, 1) := by decide +kernel
theorem dX6_twice_0 : decode cX6_twice 0 = .ok (.aload_n 0, 1) := by decide +kernel
theorem dX6_twice_1 : decode cX6_twice 1 = .ok (.getfield 18, 3) := by decide +kernel
theorem dX6_twice_4 : decode cX6_twice 4 = .ok (.iload_n 1, 1) := by decide +kernel
theorem dX6_twice_5 : decode cX6_twice 5 = .ok (.invokevirtual 123, 3) := by decide +kernel
theorem dX6_twice_8 : decode cX6_twice 8 = .ok (.ifCond .ne 9, 3) := by decide +kernel
theorem dX6_twice_11 : decode cX6_twice 11 = .ok (.aload_n 0, 1) := by decide +kernel
theorem dX6_twice_12 : decode cX6_twice 12 = .ok (.iconst 1, 1) := by decide +kernel
theorem dX6_twice_13 : decode cX6_twice 13 = .ok (.invokevirtual 83, 3) := by decide +kernel
theorem dX6_twice_16 : decode cX6_twice 16 = .ok (.ireturn, 1) := by decide +kernel
theorem dX6_twice_17 : decode cX6_twice 17 = .ok (.iload_n 2, 1) := by decide +kernel
theorem dX6_twice_18 : decode cX6_twice 18 = .ok (.iload_n 3, 1) := by decide +kernel
theorem dX6_twice_19 : decode cX6_twice 19 = .ok (.iconst 0, 1) := by decide +kernel
theorem dX6_twice_20 : decode cX6_twice 20 = .ok (.invokestatic 227, 3) := by decide +kernel
theorem dX6_twice_23 : decode cX6_twice 23 = .ok (.ifCond .eq 14, 3) := by decide +kernel
theorem dX6_twice_26 : decode cX6_twice 26 = .ok (.iload 4, 2) := by decide +kernel
theorem dX6_twice_28 : decode cX6_twice 28 = .ok (.iload 5, 2) := by decide +kernel
theorem dX6_twice_30 : decode cX6_twice 30 = .ok (.iconst 0, 1) := by decide +kernel
theorem dX6_twice_31 : decode cX6_twice 31 = .ok (.invokestatic 227, 3) := by decide +kernel
theorem dX6_twice_34 : decode cX6_twice 34 = .ok (.ifCond .ne 10, 3) := by decide +kernel
theorem dX6_twice_37 : decode cX6_twice 37 = .ok (.aload_n 0, 1) := by decide +kernel
theorem dX6_twice_38 : decode cX6_twice 38 = .ok (.bipush 6, 2) := by decide +kernel
theorem dX6_twice_40 : decode cX6_twice 40 = .ok (.invokevirtual 83, 3) := by decide +kernel
theorem dX6_twice_43 : decode cX6_twice 43 = .ok (.ireturn, 1) := by decide +kernel
theorem dX6_twice_44 : decode cX6_twice 44 = .ok (.aload_n 0, 1) := by decide +kernel
theorem dX6_twice_45 : decode cX6_twice 45 = .ok (.getfield 31, 3) := by decide +kernel
theorem dX6_twice_48 : decode cX6_twice 48 = .ok (.aload_n 0, 1) := by decide +kernel
theorem dX6_twice_49 : decode cX6_twice 49 = .ok (.getfield 18, 3) := by decide +kernel
theorem dX6_twice_52 : decode cX6_twice 52 = .ok (.getfield 141, 3) := by decide +kernel
theorem dX6_twice_55 : decode cX6_twice 55 = .ok (.iload_n 1, 1) := by decide +kernel
theorem dX6_twice_56 : decode cX6_twice 56 = .ok (.aaload, 1) := by decide +kernel
theorem dX6_twice_57 : decode cX6_twice 57 = .ok (.aload_n 0, 1) := by decide +kernel
theorem dX6_twice_58 : decode cX6_twice 58 = .ok (.getfield 18, 3) := by decide +kernel
theorem dX6_twice_61 : decode cX6_twice 61 = .ok (.getfield 181, 3) := by decide +kernel
theorem dX6_twice_64 : decode cX6_twice 64 = .ok (.invokevirtual 233, 3) := by decide +kernel
theorem dX6_twice_67 : decode cX6_twice 67 = .ok (.aload_n 0, 1) := by decide +kernel
theorem dX6_twice_68 : decode cX6_twice 68 = .ok (.getfield 31, 3) := by decide +kernel
theorem dX6_twice_71 : decode cX6_twice 71 = .ok (.iload_n 2, 1) := by decide +kernel
theorem dX6_twice_72 : decode cX6_twice 72 = .ok (.iload_n 3, 1) := by decide +kernel
theorem dX6_twice_73 : decode cX6_twice 73 = .ok (.invokevirtual 246, 3) := by decide +kernel
theorem dX6_twice_76 : decode cX6_twice 76 = .ok (.aload_n 0, 1) := by decide +kernel
theorem dX6_twice_77 : decode cX6_twice 77 = .ok (.getfield 31, 3) := by decide +kernel
theorem dX6_twice_80 : decode cX6_twice 80 = .ok (.getfield 225, 3) := by decide +kernel
theorem dX6_twice_83 : decode cX6_twice 83 = .ok (.invokevirtual 259, 3) := by decide +kernel
theorem dX6_twice_86 : decode cX6_twice 86 = .ok (.aload_n 0, 1) := by decide +kernel
theorem dX6_twice_87 : decode cX6_twice 87 = .ok (.getfield 31, 3) := by decide +kernel
theorem dX6_twice_90 : decode cX6_twice 90 = .ok (.iload 4, 2) := by decide +kernel
theorem dX6_twice_92 : decode cX6_twice 92 = .ok (.iload 5, 2) := by decide +kernel
theorem dX6_twice_94 : decode cX6_twice 94 = .ok (.invokevirtual 246, 3) := by decide +kernel
theorem dX6_twice_97 : decode cX6_twice 97 = .ok (.aload_n 0, 1) := by decide +kernel
theorem dX6_twice_98 : decode cX6_twice 98 = .ok (.getfield 18, 3) := by decide +kernel
theorem dX6_twice_101 : decode cX6_twice 101 = .ok (.aload_n 0, 1) := by decide +kernel
theorem dX6_twice_102 : decode cX6_twice 102 = .ok (.getfield 31, 3) := by decide +kernel
theorem dX6_twice_105 : decode cX6_twice 105 = .ok (.getfield 225, 3) := by decide +kernel
theorem dX6_twice_108 : decode cX6_twice 108 = .ok (.invokevirtual 252, 3) := by decide +kernel
theorem dX6_twice_111 : decode cX6_twice 111 = .ok (.ireturn, 1) := by decide +kernel
theorem dX6_goes_0 : decode cX6_goes 0 = .ok (.aload_n 0, 1) := by decide +kernel
theorem dX6_goes_1 : decode cX6_goes 1 = .ok (.iload_n 1, 1) := by decide +kernel
theorem dX6_goes_2 : decode cX6_goes 2 = .ok (.iload_n 2, 1) := by decide +kernel
theorem dX6_goes_3 : decode cX6_goes 3 = .ok (.iload_n 3, 1) := by decide +kernel
theorem dX6_goes_4 : decode cX6_goes 4 = .ok (.iconst 0, 1) := by decide +kernel
theorem dX6_goes_5 : decode cX6_goes 5 = .ok (.invokevirtual 217, 3) := by decide +kernel
theorem dX6_goes_8 : decode cX6_goes 8 = .ok (.istore 4, 2) := by decide +kernel
theorem dX6_goes_10 : decode cX6_goes 10 = .ok (.iload 4, 2) := by decide +kernel
theorem dX6_goes_12 : decode cX6_goes 12 = .ok (.ifCond .eq 10, 3) := by decide +kernel
theorem dX6_goes_15 : decode cX6_goes 15 = .ok (.aload_n 0, 1) := by decide +kernel
theorem dX6_goes_16 : decode cX6_goes 16 = .ok (.iload 4, 2) := by decide +kernel
theorem dX6_goes_18 : decode cX6_goes 18 = .ok (.invokevirtual 83, 3) := by decide +kernel
theorem dX6_goes_21 : decode cX6_goes 21 = .ok (.ireturn, 1) := by decide +kernel
theorem dX6_goes_22 : decode cX6_goes 22 = .ok (.aload_n 0, 1) := by decide +kernel
theorem dX6_goes_23 : decode cX6_goes 23 = .ok (.aload_n 0, 1) := by decide +kernel
theorem dX6_goes_24 : decode cX6_goes 24 = .ok (.getfield 18, 3) := by decide +kernel
theorem dX6_goes_27 : decode cX6_goes 27 = .ok (.getfield 141, 3) := by decide +kernel
theorem dX6_goes_30 : decode cX6_goes 30 = .ok (.iload_n 1, 1) := by decide +kernel
theorem dX6_goes_31 : decode cX6_goes 31 = .ok (.aaload, 1) := by decide +kernel
theorem dX6_goes_32 : decode cX6_goes 32 = .ok (.iload_n 2, 1) := by decide +kernel
theorem dX6_goes_33 : decode cX6_goes 33 = .ok (.iload_n 3, 1) := by decide +kernel
theorem dX6_goes_34 : decode cX6_goes 34 = .ok (.iconst 0, 1) := by decide +kernel
theorem dX6_goes_35 : decode cX6_goes 35 = .ok (.invokevirtual 221, 3) := by decide +kernel
theorem dX6_goes_38 : decode cX6_goes 38 = .ok (.aload_n 0, 1) := by decide +kernel
theorem dX6_goes_39 : decode cX6_goes 39 = .ok (.getfield 31, 3) := by decide +kernel
theorem dX6_goes_42 : decode cX6_goes 42 = .ok (.getfield 265, 3) := by decide +kernel
theorem dX6_goes_45 : decode cX6_goes 45 = .ok (.ireturn, 1) := by decide +kernel
theorem dX6_plate_0 : decode cX6_plate 0 = .ok (.iload 4, 2) := by decide +kernel
theorem dX6_plate_2 : decode cX6_plate 2 = .ok (.iconst (-1), 1) := by decide +kernel
theorem dX6_plate_3 : decode cX6_plate 3 = .ok (.if_icmp .eq 21, 3) := by decide +kernel
theorem dX6_plate_6 : decode cX6_plate 6 = .ok (.aload_n 0, 1) := by decide +kernel
theorem dX6_plate_7 : decode cX6_plate 7 = .ok (.getfield 18, 3) := by decide +kernel
theorem dX6_plate_10 : decode cX6_plate 10 = .ok (.iload 4, 2) := by decide +kernel
theorem dX6_plate_12 : decode cX6_plate 12 = .ok (.invokevirtual 123, 3) := by decide +kernel
theorem dX6_plate_15 : decode cX6_plate 15 = .ok (.ifCond .ne 9, 3) := by decide +kernel
theorem dX6_plate_18 : decode cX6_plate 18 = .ok (.aload_n 0, 1) := by decide +kernel
theorem dX6_plate_19 : decode cX6_plate 19 = .ok (.iconst 5, 1) := by decide +kernel
theorem dX6_plate_20 : decode cX6_plate 20 = .ok (.invokevirtual 83, 3) := by decide +kernel
theorem dX6_plate_23 : decode cX6_plate 23 = .ok (.ireturn, 1) := by decide +kernel
theorem dX6_plate_24 : decode cX6_plate 24 = .ok (.iload_n 1, 1) := by decide +kernel
theorem dX6_plate_25 : decode cX6_plate 25 = .ok (.iload_n 2, 1) := by decide +kernel
theorem dX6_plate_26 : decode cX6_plate 26 = .ok (.iload_n 3, 1) := by decide +kernel
theorem dX6_plate_27 : decode cX6_plate 27 = .ok (.invokestatic 227, 3) := by decide +kernel
theorem dX6_plate_30 : decode cX6_plate 30 = .ok (.ifCond .eq 14, 3) := by decide +kernel
theorem dX6_plate_33 : decode cX6_plate 33 = .ok (.aload_n 0, 1) := by decide +kernel
theorem dX6_plate_34 : decode cX6_plate 34 = .ok (.getfield 18, 3) := by decide +kernel
theorem dX6_plate_37 : decode cX6_plate 37 = .ok (.getfield 268, 3) := by decide +kernel
theorem dX6_plate_40 : decode cX6_plate 40 = .ok (.iconst 5, 1) := by decide +kernel
theorem dX6_plate_41 : decode cX6_plate 41 = .ok (.if_icmp .le 10, 3) := by decide +kernel
theorem dX6_plate_44 : decode cX6_plate 44 = .ok (.aload_n 0, 1) := by decide +kernel
theorem dX6_plate_45 : decode cX6_plate 45 = .ok (.bipush 6, 2) := by decide +kernel
theorem dX6_plate_47 : decode cX6_plate 47 = .ok (.invokevirtual 83, 3) := by decide +kernel
theorem dX6_plate_50 : decode cX6_plate 50 = .ok (.ireturn, 1) := by decide +kernel
theorem dX6_plate_51 : decode cX6_plate 51 = .ok (.aload_n 0, 1) := by decide +kernel
theorem dX6_plate_52 : decode cX6_plate 52 = .ok (.iload_n 1, 1) := by decide +kernel
theorem dX6_plate_53 : decode cX6_plate 53 = .ok (.iload_n 2, 1) := by decide +kernel
theorem dX6_plate_54 : decode cX6_plate 54 = .ok (.iload_n 3, 1) := by decide +kernel
theorem dX6_plate_55 : decode cX6_plate 55 = .ok (.invokevirtual 271, 3) := by decide +kernel
theorem dX6_plate_58 : decode cX6_plate 58 = .ok (.aload_n 0, 1) := by decide +kernel
theorem dX6_plate_59 : decode cX6_plate 59 = .ok (.invokevirtual 275, 3) := by decide +kernel
theorem dX6_plate_62 : decode cX6_plate 62 = .ok (.istore 5, 2) := by decide +kernel
theorem dX6_plate_64 : decode cX6_plate 64 = .ok (.iload 4, 2) := by decide +kernel
theorem dX6_plate_66 : decode cX6_plate 66 = .ok (.iconst (-1), 1) := by decide +kernel
theorem dX6_plate_67 : decode cX6_plate 67 = .ok (.if_icmp .ne 8, 3) := by decide +kernel
theorem dX6_plate_70 : decode cX6_plate 70 = .ok (.iload 5, 2) := by decide +kernel
theorem dX6_plate_72 : decode cX6_plate 72 = .ok (.goto 10, 3) := by decide +kernel
theorem dX6_plate_75 : decode cX6_plate 75 = .ok (.aload_n 0, 1) := by decide +kernel
theorem dX6_plate_76 : decode cX6_plate 76 = .ok (.getfield 71, 3) := by decide +kernel
theorem dX6_plate_79 : decode cX6_plate 79 = .ok (.iload 4, 2) := by decide +kernel
theorem dX6_plate_81 : decode cX6_plate 81 = .ok (.iaload, 1) := by decide +kernel
theorem dX6_plate_82 : decode cX6_plate 82 = .ok (.ireturn, 1) := by decide +kernel
theorem dX6_rule_0 : decode cX6_rule 0 = .ok (.iload_n 1, 1) := by decide +kernel
theorem dX6_rule_1 : decode cX6_rule 1 = .ok (.iconst 0, 1) := by decide +kernel
theorem dX6_rule_2 : decode cX6_rule 2 = .ok (.bipush 99, 2) := by decide +kernel
theorem dX6_rule_4 : decode cX6_rule 4 = .ok (.invokestatic 87, 3) := by decide +kernel
theorem dX6_rule_7 : decode cX6_rule 7 = .ok (.ifCond .eq 23, 3) := by decide +kernel
theorem dX6_rule_10 : decode cX6_rule 10 = .ok (.iload_n 2, 1) := by decide +kernel
theorem dX6_rule_11 : decode cX6_rule 11 = .ok (.iconst 1, 1) := by decide +kernel
theorem dX6_rule_12 : decode cX6_rule 12 = .ok (.bipush 99, 2) := by decide +kernel
theorem dX6_rule_14 : decode cX6_rule 14 = .ok (.invokestatic 87, 3) := by decide +kernel
theorem dX6_rule_17 : decode cX6_rule 17 = .ok (.ifCond .eq 13, 3) := by decide +kernel
theorem dX6_rule_20 : decode cX6_rule 20 = .ok (.iload_n 3, 1) := by decide +kernel
theorem dX6_rule_21 : decode cX6_rule 21 = .ok (.iconst 0, 1) := by decide +kernel
theorem dX6_rule_22 : decode cX6_rule 22 = .ok (.iload 4, 2) := by decide +kernel
theorem dX6_rule_24 : decode cX6_rule 24 = .ok (.invokestatic 227, 3) := by decide +kernel
theorem dX6_rule_27 : decode cX6_rule 27 = .ok (.ifCond .ne 10, 3) := by decide +kernel
theorem dX6_rule_30 : decode cX6_rule 30 = .ok (.aload_n 0, 1) := by decide +kernel
theorem dX6_rule_31 : decode cX6_rule 31 = .ok (.bipush 6, 2) := by decide +kernel
theorem dX6_rule_33 : decode cX6_rule 33 = .ok (.invokevirtual 83, 3) := by decide +kernel
theorem dX6_rule_36 : decode cX6_rule 36 = .ok (.ireturn, 1) := by decide +kernel
theorem dX6_rule_37 : decode cX6_rule 37 = .ok (.iconst 0, 1) := by decide +kernel
theorem dX6_rule_38 : decode cX6_rule 38 = .ok (.bipush 60, 2) := by decide +kernel
theorem dX6_rule_40 : decode cX6_rule 40 = .ok (.iload_n 1, 1) := by decide +kernel
theorem dX6_rule_41 : decode cX6_rule 41 = .ok (.aload_n 0, 1) := by decide +kernel
theorem dX6_rule_42 : decode cX6_rule 42 = .ok (.getfield 18, 3) := by decide +kernel
theorem dX6_rule_45 : decode cX6_rule 45 = .ok (.getfield 181, 3) := by decide +kernel
theorem dX6_rule_48 : decode cX6_rule 48 = .ok (.iload_n 2, 1) := by decide +kernel
theorem dX6_rule_49 : decode cX6_rule 49 = .ok (.idiv, 1) := by decide +kernel
theorem dX6_rule_50 : decode cX6_rule 50 = .ok (.isub, 1) := by decide +kernel
theorem dX6_rule_51 : decode cX6_rule 51 = .ok (.invokestatic 278, 3) := by decide +kernel
theorem dX6_rule_54 : decode cX6_rule 54 = .ok (.invokestatic 283, 3) := by decide +kernel
theorem dX6_rule_57 : decode cX6_rule 57 = .ok (.istore 5, 2) := by decide +kernel
theorem dX6_rule_59 : decode cX6_rule 59 = .ok (.iconst 0, 1) := by decide +kernel
theorem dX6_rule_60 : decode cX6_rule 60 = .ok (.istore 6, 2) := by decide +kernel
theorem dX6_rule_62 : decode cX6_rule 62 = .ok (.iconst 0, 1) := by decide +kernel
theorem dX6_rule_63 : decode cX6_rule 63 = .ok (.istore 7, 2) := by decide +kernel
theorem dX6_rule_65 : decode cX6_rule 65 = .ok (.iload 7, 2) := by decide +kernel
theorem dX6_rule_67 : decode cX6_rule 67 = .ok (.aload_n 0, 1) := by decide +kernel
theorem dX6_rule_68 : decode cX6_rule 68 = .ok (.getfield 18, 3) := by decide +kernel
theorem dX6_rule_71 : decode cX6_rule 71 = .ok (.getfield 268, 3) := by decide +kernel
theorem dX6_rule_74 : decode cX6_rule 74 = .ok (.if_icmp .ge 47, 3) := by decide +kernel
theorem dX6_rule_77 : decode cX6_rule 77 = .ok (.aload_n 0, 1) := by decide +kernel
theorem dX6_rule_78 : decode cX6_rule 78 = .ok (.aload_n 0, 1) := by decide +kernel
theorem dX6_rule_79 : decode cX6_rule 79 = .ok (.getfield 18, 3) := by decide +kernel
theorem dX6_rule_82 : decode cX6_rule 82 = .ok (.getfield 141, 3) := by decide +kernel
theorem dX6_rule_85 : decode cX6_rule 85 = .ok (.iload 7, 2) := by decide +kernel
theorem dX6_rule_87 : decode cX6_rule 87 = .ok (.aaload, 1) := by decide +kernel
theorem dX6_rule_88 : decode cX6_rule 88 = .ok (.iload_n 3, 1) := by decide +kernel
theorem dX6_rule_89 : decode cX6_rule 89 = .ok (.iload 5, 2) := by decide +kernel
theorem dX6_rule_91 : decode cX6_rule 91 = .ok (.iload 4, 2) := by decide +kernel
theorem dX6_rule_93 : decode cX6_rule 93 = .ok (.invokevirtual 221, 3) := by decide +kernel
theorem dX6_rule_96 : decode cX6_rule 96 = .ok (.iload 6, 2) := by decide +kernel
theorem dX6_rule_98 : decode cX6_rule 98 = .ok (.aload_n 0, 1) := by decide +kernel
theorem dX6_rule_99 : decode cX6_rule 99 = .ok (.getfield 18, 3) := by decide +kernel
theorem dX6_rule_102 : decode cX6_rule 102 = .ok (.aload_n 0, 1) := by decide +kernel
theorem dX6_rule_103 : decode cX6_rule 103 = .ok (.getfield 31, 3) := by decide +kernel
theorem dX6_rule_106 : decode cX6_rule 106 = .ok (.getfield 225, 3) := by decide +kernel
theorem dX6_rule_109 : decode cX6_rule 109 = .ok (.invokevirtual 252, 3) := by decide +kernel
theorem dX6_rule_112 : decode cX6_rule 112 = .ok (.iadd, 1) := by decide +kernel
theorem dX6_rule_113 : decode cX6_rule 113 = .ok (.istore 6, 2) := by decide +kernel
theorem dX6_rule_115 : decode cX6_rule 115 = .ok (.iinc 7 1, 3) := by decide +kernel
theorem dX6_rule_118 : decode cX6_rule 118 = .ok (.goto (-53), 3) := by decide +kernel
theorem dX6_rule_121 : decode cX6_rule 121 = .ok (.iload 6, 2) := by decide +kernel
theorem dX6_rule_123 : decode cX6_rule 123 = .ok (.ireturn, 1) := by decide +kernel
theorem dX6_back_0 : decode cX6_back 0 = .ok (.aload_n 0, 1) := by decide +kernel
theorem dX6_back_1 : decode cX6_back 1 = .ok (.iload_n 1, 1) := by decide +kernel
theorem dX6_back_2 : decode cX6_back 2 = .ok (.iload_n 2, 1) := by decide +kernel
theorem dX6_back_3 : decode cX6_back 3 = .ok (.invokevirtual 286, 3) := by decide +kernel
theorem dX6_back_6 : decode cX6_back 6 = .ok (.istore 4, 2) := by decide +kernel
theorem dX6_back_8 : decode cX6_back 8 = .ok (.iload 4, 2) := by decide +kernel
theorem dX6_back_10 : decode cX6_back 10 = .ok (.ifCond .ne 17, 3) := by decide +kernel
theorem dX6_back_13 : decode cX6_back 13 = .ok (.iload_n 3, 1) := by decide +kernel
theorem dX6_back_14 : decode cX6_back 14 = .ok (.iconst 0, 1) := by decide +kernel
theorem dX6_back_15 : decode cX6_back 15 = .ok (.bipush 12, 2) := by decide +kernel
theorem dX6_back_17 : decode cX6_back 17 = .ok (.invokestatic 87, 3) := by decide +kernel
theorem dX6_back_20 : decode cX6_back 20 = .ok (.ifCond .ne 7, 3) := by decide +kernel
theorem dX6_back_23 : decode cX6_back 23 = .ok (.bipush 6, 2) := by decide +kernel
theorem dX6_back_25 : decode cX6_back 25 = .ok (.istore 4, 2) := by decide +kernel
theorem dX6_back_27 : decode cX6_back 27 = .ok (.iload 4, 2) := by decide +kernel
theorem dX6_back_29 : decode cX6_back 29 = .ok (.ifCond .eq 11, 3) := by decide +kernel
theorem dX6_back_32 : decode cX6_back 32 = .ok (.aload_n 0, 1) := by decide +kernel
theorem dX6_back_33 : decode cX6_back 33 = .ok (.iload 4, 2) := by decide +kernel
theorem dX6_back_35 : decode cX6_back 35 = .ok (.invokevirtual 83, 3) := by decide +kernel
theorem dX6_back_38 : decode cX6_back 38 = .ok (.i2l, 1) := by decide +kernel
theorem dX6_back_39 : decode cX6_back 39 = .ok (.lreturn, 1) := by decide +kernel
theorem dX6_back_40 : decode cX6_back 40 = .ok (.aload_n 0, 1) := by decide +kernel
theorem dX6_back_41 : decode cX6_back 41 = .ok (.getfield 31, 3) := by decide +kernel
theorem dX6_back_44 : decode cX6_back 44 = .ok (.aload_n 0, 1) := by decide +kernel
theorem dX6_back_45 : decode cX6_back 45 = .ok (.getfield 18, 3) := by decide +kernel
theorem dX6_back_48 : decode cX6_back 48 = .ok (.getfield 141, 3) := by decide +kernel
theorem dX6_back_51 : decode cX6_back 51 = .ok (.iload_n 1, 1) := by decide +kernel
theorem dX6_back_52 : decode cX6_back 52 = .ok (.aaload, 1) := by decide +kernel
theorem dX6_back_53 : decode cX6_back 53 = .ok (.aload_n 0, 1) := by decide +kernel
theorem dX6_back_54 : decode cX6_back 54 = .ok (.getfield 18, 3) := by decide +kernel
theorem dX6_back_57 : decode cX6_back 57 = .ok (.getfield 181, 3) := by decide +kernel
theorem dX6_back_60 : decode cX6_back 60 = .ok (.invokevirtual 289, 3) := by decide +kernel
theorem dX6_back_63 : decode cX6_back 63 = .ok (.aload_n 0, 1) := by decide +kernel
theorem dX6_back_64 : decode cX6_back 64 = .ok (.getfield 31, 3) := by decide +kernel
theorem dX6_back_67 : decode cX6_back 67 = .ok (.iload_n 3, 1) := by decide +kernel
theorem dX6_back_68 : decode cX6_back 68 = .ok (.invokevirtual 237, 3) := by decide +kernel
theorem dX6_back_71 : decode cX6_back 71 = .ok (.lconst 0, 1) := by decide +kernel
theorem dX6_back_72 : decode cX6_back 72 = .ok (.lstore 5, 2) := by decide +kernel
theorem dX6_back_74 : decode cX6_back 74 = .ok (.iconst 0, 1) := by decide +kernel
theorem dX6_back_75 : decode cX6_back 75 = .ok (.istore 7, 2) := by decide +kernel
theorem dX6_back_77 : decode cX6_back 77 = .ok (.iload 7, 2) := by decide +kernel
theorem dX6_back_79 : decode cX6_back 79 = .ok (.bipush 60, 2) := by decide +kernel
theorem dX6_back_81 : decode cX6_back 81 = .ok (.if_icmp .gt 60, 3) := by decide +kernel
theorem dX6_back_84 : decode cX6_back 84 = .ok (.iload 7, 2) := by decide +kernel
theorem dX6_back_86 : decode cX6_back 86 = .ok (.ifCond .le 11, 3) := by decide +kernel
theorem dX6_back_89 : decode cX6_back 89 = .ok (.aload_n 0, 1) := by decide +kernel
theorem dX6_back_90 : decode cX6_back 90 = .ok (.getfield 31, 3) := by decide +kernel
theorem dX6_back_93 : decode cX6_back 93 = .ok (.invokevirtual 240, 3) := by decide +kernel
theorem dX6_back_96 : decode cX6_back 96 = .ok (.pop, 1) := by decide +kernel
theorem dX6_back_97 : decode cX6_back 97 = .ok (.aload_n 0, 1) := by decide +kernel
theorem dX6_back_98 : decode cX6_back 98 = .ok (.getfield 31, 3) := by decide +kernel
theorem dX6_back_101 : decode cX6_back 101 = .ok (.invokevirtual 249, 3) := by decide +kernel
theorem dX6_back_104 : decode cX6_back 104 = .ok (.ifCond .eq 31, 3) := by decide +kernel
theorem dX6_back_107 : decode cX6_back 107 = .ok (.aload_n 0, 1) := by decide +kernel
theorem dX6_back_108 : decode cX6_back 108 = .ok (.getfield 31, 3) := by decide +kernel
theorem dX6_back_111 : decode cX6_back 111 = .ok (.getfield 225, 3) := by decide +kernel
theorem dX6_back_114 : decode cX6_back 114 = .ok (.aload_n 0, 1) := by decide +kernel
theorem dX6_back_115 : decode cX6_back 115 = .ok (.getfield 11, 3) := by decide +kernel
theorem dX6_back_118 : decode cX6_back 118 = .ok (.iload_n 2, 1) := by decide +kernel
theorem dX6_back_119 : decode cX6_back 119 = .ok (.aaload, 1) := by decide +kernel
theorem dX6_back_120 : decode cX6_back 120 = .ok (.invokestatic 292, 3) := by decide +kernel
theorem dX6_back_123 : decode cX6_back 123 = .ok (.ifCond .eq 12, 3) := by decide +kernel
theorem dX6_back_126 : decode cX6_back 126 = .ok (.lload 5, 2) := by decide +kernel
theorem dX6_back_128 : decode cX6_back 128 = .ok (.lconst 1, 1) := by decide +kernel
theorem dX6_back_129 : decode cX6_back 129 = .ok (.iload 7, 2) := by decide +kernel
theorem dX6_back_131 : decode cX6_back 131 = .ok (.lshl, 1) := by decide +kernel
theorem dX6_back_132 : decode cX6_back 132 = .ok (.lor, 1) := by decide +kernel
theorem dX6_back_133 : decode cX6_back 133 = .ok (.lstore 5, 2) := by decide +kernel
theorem dX6_back_135 : decode cX6_back 135 = .ok (.iinc 7 1, 3) := by decide +kernel
theorem dX6_back_138 : decode cX6_back 138 = .ok (.goto (-61), 3) := by decide +kernel
theorem dX6_back_141 : decode cX6_back 141 = .ok (.lload 5, 2) := by decide +kernel
theorem dX6_back_143 : decode cX6_back 143 = .ok (.lreturn, 1) := by decide +kernel
theorem dX6_heats_0 : decode cX6_heats 0 = .ok (.aload_n 0, 1) := by decide +kernel
theorem dX6_heats_1 : decode cX6_heats 1 = .ok (.iload_n 1, 1) := by decide +kernel
theorem dX6_heats_2 : decode cX6_heats 2 = .ok (.iload_n 2, 1) := by decide +kernel
theorem dX6_heats_3 : decode cX6_heats 3 = .ok (.invokevirtual 286, 3) := by decide +kernel
theorem dX6_heats_6 : decode cX6_heats 6 = .ok (.istore 5, 2) := by decide +kernel
theorem dX6_heats_8 : decode cX6_heats 8 = .ok (.iload 5, 2) := by decide +kernel
theorem dX6_heats_10 : decode cX6_heats 10 = .ok (.ifCond .ne 17, 3) := by decide +kernel
theorem dX6_heats_13 : decode cX6_heats 13 = .ok (.iload_n 3, 1) := by decide +kernel
theorem dX6_heats_14 : decode cX6_heats 14 = .ok (.iload 4, 2) := by decide +kernel
theorem dX6_heats_16 : decode cX6_heats 16 = .ok (.iconst 0, 1) := by decide +kernel
theorem dX6_heats_17 : decode cX6_heats 17 = .ok (.invokestatic 227, 3) := by decide +kernel
theorem dX6_heats_20 : decode cX6_heats 20 = .ok (.ifCond .ne 7, 3) := by decide +kernel
theorem dX6_heats_23 : decode cX6_heats 23 = .ok (.bipush 6, 2) := by decide +kernel
theorem dX6_heats_25 : decode cX6_heats 25 = .ok (.istore 5, 2) := by decide +kernel
theorem dX6_heats_27 : decode cX6_heats 27 = .ok (.iload 5, 2) := by decide +kernel
theorem dX6_heats_29 : decode cX6_heats 29 = .ok (.ifCond .eq 13, 3) := by decide +kernel
theorem dX6_heats_32 : decode cX6_heats 32 = .ok (.aload_n 0, 1) := by decide +kernel
theorem dX6_heats_33 : decode cX6_heats 33 = .ok (.iload 5, 2) := by decide +kernel
theorem dX6_heats_35 : decode cX6_heats 35 = .ok (.invokevirtual 83, 3) := by decide +kernel
theorem dX6_heats_38 : decode cX6_heats 38 = .ok (.bipush 10, 2) := by decide +kernel
theorem dX6_heats_40 : decode cX6_heats 40 = .ok (.isub, 1) := by decide +kernel
theorem dX6_heats_41 : decode cX6_heats 41 = .ok (.ireturn, 1) := by decide +kernel
theorem dX6_heats_42 : decode cX6_heats 42 = .ok (.iconst 0, 1) := by decide +kernel
theorem dX6_heats_43 : decode cX6_heats 43 = .ok (.istore 6, 2) := by decide +kernel
theorem dX6_heats_45 : decode cX6_heats 45 = .ok (.iload 6, 2) := by decide +kernel
theorem dX6_heats_47 : decode cX6_heats 47 = .ok (.bipush 99, 2) := by decide +kernel
theorem dX6_heats_49 : decode cX6_heats 49 = .ok (.if_icmp .gt 69, 3) := by decide +kernel
theorem dX6_heats_52 : decode cX6_heats 52 = .ok (.aload_n 0, 1) := by decide +kernel
theorem dX6_heats_53 : decode cX6_heats 53 = .ok (.getfield 31, 3) := by decide +kernel
theorem dX6_heats_56 : decode cX6_heats 56 = .ok (.aload_n 0, 1) := by decide +kernel
theorem dX6_heats_57 : decode cX6_heats 57 = .ok (.getfield 18, 3) := by decide +kernel
theorem dX6_heats_60 : decode cX6_heats 60 = .ok (.getfield 141, 3) := by decide +kernel
theorem dX6_heats_63 : decode cX6_heats 63 = .ok (.iload_n 1, 1) := by decide +kernel
theorem dX6_heats_64 : decode cX6_heats 64 = .ok (.aaload, 1) := by decide +kernel
theorem dX6_heats_65 : decode cX6_heats 65 = .ok (.iload 6, 2) := by decide +kernel
theorem dX6_heats_67 : decode cX6_heats 67 = .ok (.invokevirtual 289, 3) := by decide +kernel
theorem dX6_heats_70 : decode cX6_heats 70 = .ok (.aload_n 0, 1) := by decide +kernel
theorem dX6_heats_71 : decode cX6_heats 71 = .ok (.getfield 31, 3) := by decide +kernel
theorem dX6_heats_74 : decode cX6_heats 74 = .ok (.iload_n 3, 1) := by decide +kernel
theorem dX6_heats_75 : decode cX6_heats 75 = .ok (.iload 4, 2) := by decide +kernel
theorem dX6_heats_77 : decode cX6_heats 77 = .ok (.invokevirtual 246, 3) := by decide +kernel
theorem dX6_heats_80 : decode cX6_heats 80 = .ok (.aload_n 0, 1) := by decide +kernel
theorem dX6_heats_81 : decode cX6_heats 81 = .ok (.getfield 31, 3) := by decide +kernel
theorem dX6_heats_84 : decode cX6_heats 84 = .ok (.invokevirtual 249, 3) := by decide +kernel
theorem dX6_heats_87 : decode cX6_heats 87 = .ok (.ifCond .eq 25, 3) := by decide +kernel
theorem dX6_heats_90 : decode cX6_heats 90 = .ok (.aload_n 0, 1) := by decide +kernel
theorem dX6_heats_91 : decode cX6_heats 91 = .ok (.getfield 31, 3) := by decide +kernel
theorem dX6_heats_94 : decode cX6_heats 94 = .ok (.getfield 225, 3) := by decide +kernel
theorem dX6_heats_97 : decode cX6_heats 97 = .ok (.aload_n 0, 1) := by decide +kernel
theorem dX6_heats_98 : decode cX6_heats 98 = .ok (.getfield 11, 3) := by decide +kernel
theorem dX6_heats_101 : decode cX6_heats 101 = .ok (.iload_n 2, 1) := by decide +kernel
theorem dX6_heats_102 : decode cX6_heats 102 = .ok (.aaload, 1) := by decide +kernel
theorem dX6_heats_103 : decode cX6_heats 103 = .ok (.invokestatic 292, 3) := by decide +kernel
theorem dX6_heats_106 : decode cX6_heats 106 = .ok (.ifCond .eq 6, 3) := by decide +kernel
theorem dX6_heats_109 : decode cX6_heats 109 = .ok (.iload 6, 2) := by decide +kernel
theorem dX6_heats_111 : decode cX6_heats 111 = .ok (.ireturn, 1) := by decide +kernel
theorem dX6_heats_112 : decode cX6_heats 112 = .ok (.iinc 6 10, 3) := by decide +kernel
theorem dX6_heats_115 : decode cX6_heats 115 = .ok (.goto (-70), 3) := by decide +kernel
theorem dX6_heats_118 : decode cX6_heats 118 = .ok (.iconst (-1), 1) := by decide +kernel
theorem dX6_heats_119 : decode cX6_heats 119 = .ok (.ireturn, 1) := by decide +kernel
theorem dX6_fetch_0 : decode cX6_fetch 0 = .ok (.iload_n 1, 1) := by decide +kernel
theorem dX6_fetch_1 : decode cX6_fetch 1 = .ok (.iconst 1, 1) := by decide +kernel
theorem dX6_fetch_2 : decode cX6_fetch 2 = .ok (.bipush 12, 2) := by decide +kernel
theorem dX6_fetch_4 : decode cX6_fetch 4 = .ok (.invokestatic 87, 3) := by decide +kernel
theorem dX6_fetch_7 : decode cX6_fetch 7 = .ok (.ifCond .eq 13, 3) := by decide +kernel
theorem dX6_fetch_10 : decode cX6_fetch 10 = .ok (.iload_n 2, 1) := by decide +kernel
theorem dX6_fetch_11 : decode cX6_fetch 11 = .ok (.iconst 0, 1) := by decide +kernel
theorem dX6_fetch_12 : decode cX6_fetch 12 = .ok (.bipush 60, 2) := by decide +kernel
theorem dX6_fetch_14 : decode cX6_fetch 14 = .ok (.invokestatic 87, 3) := by decide +kernel
theorem dX6_fetch_17 : decode cX6_fetch 17 = .ok (.ifCond .ne 10, 3) := by decide +kernel
theorem dX6_fetch_20 : decode cX6_fetch 20 = .ok (.aload_n 0, 1) := by decide +kernel
theorem dX6_fetch_21 : decode cX6_fetch 21 = .ok (.bipush 6, 2) := by decide +kernel
theorem dX6_fetch_23 : decode cX6_fetch 23 = .ok (.invokevirtual 83, 3) := by decide +kernel
theorem dX6_fetch_26 : decode cX6_fetch 26 = .ok (.ireturn, 1) := by decide +kernel
theorem dX6_fetch_27 : decode cX6_fetch 27 = .ok (.iconst 0, 1) := by decide +kernel
theorem dX6_fetch_28 : decode cX6_fetch 28 = .ok (.istore_n 3, 1) := by decide +kernel
theorem dX6_fetch_29 : decode cX6_fetch 29 = .ok (.iconst 0, 1) := by decide +kernel
theorem dX6_fetch_30 : decode cX6_fetch 30 = .ok (.istore 4, 2) := by decide +kernel
theorem dX6_fetch_32 : decode cX6_fetch 32 = .ok (.iload 4, 2) := by decide +kernel
theorem dX6_fetch_34 : decode cX6_fetch 34 = .ok (.aload_n 0, 1) := by decide +kernel
theorem dX6_fetch_35 : decode cX6_fetch 35 = .ok (.getfield 18, 3) := by decide +kernel
theorem dX6_fetch_38 : decode cX6_fetch 38 = .ok (.getfield 268, 3) := by decide +kernel
theorem dX6_fetch_41 : decode cX6_fetch 41 = .ok (.if_icmp .ge 60, 3) := by decide +kernel
theorem dX6_fetch_44 : decode cX6_fetch 44 = .ok (.aload_n 0, 1) := by decide +kernel
theorem dX6_fetch_45 : decode cX6_fetch 45 = .ok (.getfield 18, 3) := by decide +kernel
theorem dX6_fetch_48 : decode cX6_fetch 48 = .ok (.getfield 141, 3) := by decide +kernel
theorem dX6_fetch_51 : decode cX6_fetch 51 = .ok (.iload 4, 2) := by decide +kernel
theorem dX6_fetch_53 : decode cX6_fetch 53 = .ok (.aaload, 1) := by decide +kernel
theorem dX6_fetch_54 : decode cX6_fetch 54 = .ok (.getfield 162, 3) := by decide +kernel
theorem dX6_fetch_57 : decode cX6_fetch 57 = .ok (.iload_n 1, 1) := by decide +kernel
theorem dX6_fetch_58 : decode cX6_fetch 58 = .ok (.if_icmp .lt 37, 3) := by decide +kernel
theorem dX6_fetch_61 : decode cX6_fetch 61 = .ok (.aload_n 0, 1) := by decide +kernel
theorem dX6_fetch_62 : decode cX6_fetch 62 = .ok (.aload_n 0, 1) := by decide +kernel
theorem dX6_fetch_63 : decode cX6_fetch 63 = .ok (.getfield 18, 3) := by decide +kernel
theorem dX6_fetch_66 : decode cX6_fetch 66 = .ok (.getfield 141, 3) := by decide +kernel
theorem dX6_fetch_69 : decode cX6_fetch 69 = .ok (.iload 4, 2) := by decide +kernel
theorem dX6_fetch_71 : decode cX6_fetch 71 = .ok (.aaload, 1) := by decide +kernel
theorem dX6_fetch_72 : decode cX6_fetch 72 = .ok (.iload_n 1, 1) := by decide +kernel
theorem dX6_fetch_73 : decode cX6_fetch 73 = .ok (.iload_n 2, 1) := by decide +kernel
theorem dX6_fetch_74 : decode cX6_fetch 74 = .ok (.iconst 0, 1) := by decide +kernel
theorem dX6_fetch_75 : decode cX6_fetch 75 = .ok (.invokevirtual 221, 3) := by decide +kernel
theorem dX6_fetch_78 : decode cX6_fetch 78 = .ok (.aload_n 0, 1) := by decide +kernel
theorem dX6_fetch_79 : decode cX6_fetch 79 = .ok (.getfield 31, 3) := by decide +kernel
theorem dX6_fetch_82 : decode cX6_fetch 82 = .ok (.invokevirtual 249, 3) := by decide +kernel
theorem dX6_fetch_85 : decode cX6_fetch 85 = .ok (.ifCond .eq 10, 3) := by decide +kernel
theorem dX6_fetch_88 : decode cX6_fetch 88 = .ok (.iload_n 3, 1) := by decide +kernel
theorem dX6_fetch_89 : decode cX6_fetch 89 = .ok (.iconst 1, 1) := by decide +kernel
theorem dX6_fetch_90 : decode cX6_fetch 90 = .ok (.iload 4, 2) := by decide +kernel
theorem dX6_fetch_92 : decode cX6_fetch 92 = .ok (.ishl, 1) := by decide +kernel
theorem dX6_fetch_93 : decode cX6_fetch 93 = .ok (.ior, 1) := by decide +kernel
theorem dX6_fetch_94 : decode cX6_fetch 94 = .ok (.istore_n 3, 1) := by decide +kernel
theorem dX6_fetch_95 : decode cX6_fetch 95 = .ok (.iinc 4 1, 3) := by decide +kernel
theorem dX6_fetch_98 : decode cX6_fetch 98 = .ok (.goto (-66), 3) := by decide +kernel
theorem dX6_fetch_101 : decode cX6_fetch 101 = .ok (.iload_n 3, 1) := by decide +kernel
theorem dX6_fetch_102 : decode cX6_fetch 102 = .ok (.ireturn, 1) := by decide +kernel
theorem dX6_dip_0 : decode cX6_dip 0 = .ok (.aload_n 0, 1) := by decide +kernel
theorem dX6_dip_1 : decode cX6_dip 1 = .ok (.iload_n 1, 1) := by decide +kernel
theorem dX6_dip_2 : decode cX6_dip 2 = .ok (.iload_n 2, 1) := by decide +kernel
theorem dX6_dip_3 : decode cX6_dip 3 = .ok (.iload_n 3, 1) := by decide +kernel
theorem dX6_dip_4 : decode cX6_dip 4 = .ok (.iconst 0, 1) := by decide +kernel
theorem dX6_dip_5 : decode cX6_dip 5 = .ok (.invokevirtual 296, 3) := by decide +kernel
theorem dX6_dip_8 : decode cX6_dip 8 = .ok (.istore 4, 2) := by decide +kernel
theorem dX6_dip_10 : decode cX6_dip 10 = .ok (.iload 4, 2) := by decide +kernel
theorem dX6_dip_12 : decode cX6_dip 12 = .ok (.ifCond .eq 10, 3) := by decide +kernel
theorem dX6_dip_15 : decode cX6_dip 15 = .ok (.aload_n 0, 1) := by decide +kernel
theorem dX6_dip_16 : decode cX6_dip 16 = .ok (.iload 4, 2) := by decide +kernel
theorem dX6_dip_18 : decode cX6_dip 18 = .ok (.invokevirtual 83, 3) := by decide +kernel
theorem dX6_dip_21 : decode cX6_dip 21 = .ok (.ireturn, 1) := by decide +kernel
theorem dX6_dip_22 : decode cX6_dip 22 = .ok (.aload_n 0, 1) := by decide +kernel
theorem dX6_dip_23 : decode cX6_dip 23 = .ok (.getfield 18, 3) := by decide +kernel
theorem dX6_dip_26 : decode cX6_dip 26 = .ok (.iload_n 1, 1) := by decide +kernel
theorem dX6_dip_27 : decode cX6_dip 27 = .ok (.iload_n 2, 1) := by decide +kernel
theorem dX6_dip_28 : decode cX6_dip 28 = .ok (.iload_n 3, 1) := by decide +kernel
theorem dX6_dip_29 : decode cX6_dip 29 = .ok (.aload_n 0, 1) := by decide +kernel
theorem dX6_dip_30 : decode cX6_dip 30 = .ok (.getfield 31, 3) := by decide +kernel
theorem dX6_dip_33 : decode cX6_dip 33 = .ok (.invokevirtual 299, 3) := by decide +kernel
theorem dX6_dip_36 : decode cX6_dip 36 = .ok (.ireturn, 1) := by decide +kernel
theorem dX6_carry_0 : decode cX6_carry 0 = .ok (.aload_n 0, 1) := by decide +kernel
theorem dX6_carry_1 : decode cX6_carry 1 = .ok (.iload_n 1, 1) := by decide +kernel
theorem dX6_carry_2 : decode cX6_carry 2 = .ok (.iconst 0, 1) := by decide +kernel
theorem dX6_carry_3 : decode cX6_carry 3 = .ok (.iconst 0, 1) := by decide +kernel
theorem dX6_carry_4 : decode cX6_carry 4 = .ok (.iload_n 2, 1) := by decide +kernel
theorem dX6_carry_5 : decode cX6_carry 5 = .ok (.invokevirtual 296, 3) := by decide +kernel
theorem dX6_carry_8 : decode cX6_carry 8 = .ok (.istore_n 3, 1) := by decide +kernel
theorem dX6_carry_9 : decode cX6_carry 9 = .ok (.iload_n 3, 1) := by decide +kernel
theorem dX6_carry_10 : decode cX6_carry 10 = .ok (.ifCond .eq 9, 3) := by decide +kernel
theorem dX6_carry_13 : decode cX6_carry 13 = .ok (.aload_n 0, 1) := by decide +kernel
theorem dX6_carry_14 : decode cX6_carry 14 = .ok (.iload_n 3, 1) := by decide +kernel
theorem dX6_carry_15 : decode cX6_carry 15 = .ok (.invokevirtual 83, 3) := by decide +kernel
theorem dX6_carry_18 : decode cX6_carry 18 = .ok (.ireturn, 1) := by decide +kernel
theorem dX6_carry_19 : decode cX6_carry 19 = .ok (.aload_n 0, 1) := by decide +kernel
theorem dX6_carry_20 : decode cX6_carry 20 = .ok (.getfield 18, 3) := by decide +kernel
theorem dX6_carry_23 : decode cX6_carry 23 = .ok (.iload_n 1, 1) := by decide +kernel
theorem dX6_carry_24 : decode cX6_carry 24 = .ok (.iload_n 2, 1) := by decide +kernel
theorem dX6_carry_25 : decode cX6_carry 25 = .ok (.aload_n 0, 1) := by decide +kernel
theorem dX6_carry_26 : decode cX6_carry 26 = .ok (.getfield 31, 3) := by decide +kernel
theorem dX6_carry_29 : decode cX6_carry 29 = .ok (.invokevirtual 303, 3) := by decide +kernel
theorem dX6_carry_32 : decode cX6_carry 32 = .ok (.ireturn, 1) := by decide +kernel
theorem dX6_turn_0 : decode cX6_turn 0 = .ok (.aload_n 0, 1) := by decide +kernel
theorem dX6_turn_1 : decode cX6_turn 1 = .ok (.getfield 18, 3) := by decide +kernel
theorem dX6_turn_4 : decode cX6_turn 4 = .ok (.iload_n 1, 1) := by decide +kernel
theorem dX6_turn_5 : decode cX6_turn 5 = .ok (.invokevirtual 123, 3) := by decide +kernel
theorem dX6_turn_8 : decode cX6_turn 8 = .ok (.ifCond .ne 9, 3) := by decide +kernel
theorem dX6_turn_11 : decode cX6_turn 11 = .ok (.aload_n 0, 1) := by decide +kernel
theorem dX6_turn_12 : decode cX6_turn 12 = .ok (.iconst 1, 1) := by decide +kernel
theorem dX6_turn_13 : decode cX6_turn 13 = .ok (.invokevirtual 83, 3) := by decide +kernel
theorem dX6_turn_16 : decode cX6_turn 16 = .ok (.ireturn, 1) := by decide +kernel
theorem dX6_turn_17 : decode cX6_turn 17 = .ok (.aload_n 0, 1) := by decide +kernel
theorem dX6_turn_18 : decode cX6_turn 18 = .ok (.getfield 18, 3) := by decide +kernel
theorem dX6_turn_21 : decode cX6_turn 21 = .ok (.getfield 141, 3) := by decide +kernel
theorem dX6_turn_24 : decode cX6_turn 24 = .ok (.iload_n 1, 1) := by decide +kernel
theorem dX6_turn_25 : decode cX6_turn 25 = .ok (.aaload, 1) := by decide +kernel
theorem dX6_turn_26 : decode cX6_turn 26 = .ok (.invokevirtual 259, 3) := by decide +kernel
theorem dX6_turn_29 : decode cX6_turn 29 = .ok (.aload_n 0, 1) := by decide +kernel
theorem dX6_turn_30 : decode cX6_turn 30 = .ok (.getfield 18, 3) := by decide +kernel
theorem dX6_turn_33 : decode cX6_turn 33 = .ok (.getfield 141, 3) := by decide +kernel
theorem dX6_turn_36 : decode cX6_turn 36 = .ok (.iload_n 1, 1) := by decide +kernel
theorem dX6_turn_37 : decode cX6_turn 37 = .ok (.aaload, 1) := by decide +kernel
theorem dX6_turn_38 : decode cX6_turn 38 = .ok (.getfield 162, 3) := by decide +kernel
theorem dX6_turn_41 : decode cX6_turn 41 = .ok (.ireturn, 1) := by decide +kernel
theorem dX6_eats_0 : decode cX6_eats 0 = .ok (.aload_n 0, 1) := by decide +kernel
theorem dX6_eats_1 : decode cX6_eats 1 = .ok (.iload_n 1, 1) := by decide +kernel
theorem dX6_eats_2 : decode cX6_eats 2 = .ok (.iconst 0, 1) := by decide +kernel
theorem dX6_eats_3 : decode cX6_eats 3 = .ok (.iconst 0, 1) := by decide +kernel
theorem dX6_eats_4 : decode cX6_eats 4 = .ok (.iconst 0, 1) := by decide +kernel
theorem dX6_eats_5 : decode cX6_eats 5 = .ok (.invokevirtual 296, 3) := by decide +kernel
theorem dX6_eats_8 : decode cX6_eats 8 = .ok (.istore_n 2, 1) := by decide +kernel
theorem dX6_eats_9 : decode cX6_eats 9 = .ok (.iload_n 2, 1) := by decide +kernel
theorem dX6_eats_10 : decode cX6_eats 10 = .ok (.ifCond .eq 9, 3) := by decide +kernel
theorem dX6_eats_13 : decode cX6_eats 13 = .ok (.aload_n 0, 1) := by decide +kernel
theorem dX6_eats_14 : decode cX6_eats 14 = .ok (.iload_n 2, 1) := by decide +kernel
theorem dX6_eats_15 : decode cX6_eats 15 = .ok (.invokevirtual 83, 3) := by decide +kernel
theorem dX6_eats_18 : decode cX6_eats 18 = .ok (.ireturn, 1) := by decide +kernel
theorem dX6_eats_19 : decode cX6_eats 19 = .ok (.aload_n 0, 1) := by decide +kernel
theorem dX6_eats_20 : decode cX6_eats 20 = .ok (.getfield 18, 3) := by decide +kernel
theorem dX6_eats_23 : decode cX6_eats 23 = .ok (.iload_n 1, 1) := by decide +kernel
theorem dX6_eats_24 : decode cX6_eats 24 = .ok (.invokevirtual 307, 3) := by decide +kernel
theorem dX6_eats_27 : decode cX6_eats 27 = .ok (.ireturn, 1) := by decide +kernel
theorem dX6_teas_0 : decode cX6_teas 0 = .ok (.aload_n 0, 1) := by decide +kernel
theorem dX6_teas_1 : decode cX6_teas 1 = .ok (.getfield 18, 3) := by decide +kernel
theorem dX6_teas_4 : decode cX6_teas 4 = .ok (.getfield 268, 3) := by decide +kernel
theorem dX6_teas_7 : decode cX6_teas 7 = .ok (.ifCond .ne 9, 3) := by decide +kernel
theorem dX6_teas_10 : decode cX6_teas 10 = .ok (.aload_n 0, 1) := by decide +kernel
theorem dX6_teas_11 : decode cX6_teas 11 = .ok (.iconst 5, 1) := by decide +kernel
theorem dX6_teas_12 : decode cX6_teas 12 = .ok (.invokevirtual 83, 3) := by decide +kernel
theorem dX6_teas_15 : decode cX6_teas 15 = .ok (.ireturn, 1) := by decide +kernel
theorem dX6_teas_16 : decode cX6_teas 16 = .ok (.iload_n 1, 1) := by decide +kernel
theorem dX6_teas_17 : decode cX6_teas 17 = .ok (.iconst 1, 1) := by decide +kernel
theorem dX6_teas_18 : decode cX6_teas 18 = .ok (.bipush 20, 2) := by decide +kernel
theorem dX6_teas_20 : decode cX6_teas 20 = .ok (.invokestatic 87, 3) := by decide +kernel
theorem dX6_teas_23 : decode cX6_teas 23 = .ok (.ifCond .ne 10, 3) := by decide +kernel
theorem dX6_teas_26 : decode cX6_teas 26 = .ok (.aload_n 0, 1) := by decide +kernel
theorem dX6_teas_27 : decode cX6_teas 27 = .ok (.bipush 6, 2) := by decide +kernel
theorem dX6_teas_29 : decode cX6_teas 29 = .ok (.invokevirtual 83, 3) := by decide +kernel
theorem dX6_teas_32 : decode cX6_teas 32 = .ok (.ireturn, 1) := by decide +kernel
theorem dX6_teas_33 : decode cX6_teas 33 = .ok (.iconst 0, 1) := by decide +kernel
theorem dX6_teas_34 : decode cX6_teas 34 = .ok (.istore_n 2, 1) := by decide +kernel
theorem dX6_teas_35 : decode cX6_teas 35 = .ok (.iconst 0, 1) := by decide +kernel
theorem dX6_teas_36 : decode cX6_teas 36 = .ok (.istore_n 3, 1) := by decide +kernel
theorem dX6_teas_37 : decode cX6_teas 37 = .ok (.iload_n 3, 1) := by decide +kernel
theorem dX6_teas_38 : decode cX6_teas 38 = .ok (.iload_n 1, 1) := by decide +kernel
theorem dX6_teas_39 : decode cX6_teas 39 = .ok (.if_icmp .ge 23, 3) := by decide +kernel
theorem dX6_teas_42 : decode cX6_teas 42 = .ok (.iload_n 2, 1) := by decide +kernel
theorem dX6_teas_43 : decode cX6_teas 43 = .ok (.aload_n 0, 1) := by decide +kernel
theorem dX6_teas_44 : decode cX6_teas 44 = .ok (.getfield 18, 3) := by decide +kernel
theorem dX6_teas_47 : decode cX6_teas 47 = .ok (.aload_n 0, 1) := by decide +kernel
theorem dX6_teas_48 : decode cX6_teas 48 = .ok (.getfield 31, 3) := by decide +kernel
theorem dX6_teas_51 : decode cX6_teas 51 = .ok (.invokevirtual 310, 3) := by decide +kernel
theorem dX6_teas_54 : decode cX6_teas 54 = .ok (.iadd, 1) := by decide +kernel
theorem dX6_teas_55 : decode cX6_teas 55 = .ok (.istore_n 2, 1) := by decide +kernel
theorem dX6_teas_56 : decode cX6_teas 56 = .ok (.iinc 3 1, 3) := by decide +kernel
theorem dX6_teas_59 : decode cX6_teas 59 = .ok (.goto (-22), 3) := by decide +kernel
theorem dX6_teas_62 : decode cX6_teas 62 = .ok (.iload_n 2, 1) := by decide +kernel
theorem dX6_teas_63 : decode cX6_teas 63 = .ok (.ireturn, 1) := by decide +kernel
theorem dX6_seed_0 : decode cX6_seed 0 = .ok (.aload_n 0, 1) := by decide +kernel
theorem dX6_seed_1 : decode cX6_seed 1 = .ok (.getfield 18, 3) := by decide +kernel
theorem dX6_seed_4 : decode cX6_seed 4 = .ok (.getfield 314, 3) := by decide +kernel
theorem dX6_seed_7 : decode cX6_seed 7 = .ok (.istore_n 2, 1) := by decide +kernel
theorem dX6_seed_8 : decode cX6_seed 8 = .ok (.aload_n 0, 1) := by decide +kernel
theorem dX6_seed_9 : decode cX6_seed 9 = .ok (.getfield 18, 3) := by decide +kernel
theorem dX6_seed_12 : decode cX6_seed 12 = .ok (.iload_n 1, 1) := by decide +kernel
theorem dX6_seed_13 : decode cX6_seed 13 = .ok (.putfield 314, 3) := by decide +kernel
theorem dX6_seed_16 : decode cX6_seed 16 = .ok (.iload_n 2, 1) := by decide +kernel
theorem dX6_seed_17 : decode cX6_seed 17 = .ok (.ireturn, 1) := by decide +kernel
theorem dX6_act_0 : decode cX6_act 0 = .ok (.aload_n 0, 1) := by decide +kernel
theorem dX6_act_1 : decode cX6_act 1 = .ok (.getfield 50, 3) := by decide +kernel
theorem dX6_act_4 : decode cX6_act 4 = .ok (.iconst 0, 1) := by decide +kernel
theorem dX6_act_5 : decode cX6_act 5 = .ok (.putfield 317, 3) := by decide +kernel
theorem dX6_act_8 : decode cX6_act 8 = .ok (.aload_n 0, 1) := by decide +kernel
theorem dX6_act_9 : decode cX6_act 9 = .ok (.getfield 18, 3) := by decide +kernel
theorem dX6_act_12 : decode cX6_act 12 = .ok (.iload_n 1, 1) := by decide +kernel
theorem dX6_act_13 : decode cX6_act 13 = .ok (.invokevirtual 123, 3) := by decide +kernel
theorem dX6_act_16 : decode cX6_act 16 = .ok (.ifCond .eq 12, 3) := by decide +kernel
theorem dX6_act_19 : decode cX6_act 19 = .ok (.iload_n 2, 1) := by decide +kernel
theorem dX6_act_20 : decode cX6_act 20 = .ok (.iconst 0, 1) := by decide +kernel
theorem dX6_act_21 : decode cX6_act 21 = .ok (.iconst 2, 1) := by decide +kernel
theorem dX6_act_22 : decode cX6_act 22 = .ok (.invokestatic 87, 3) := by decide +kernel
theorem dX6_act_25 : decode cX6_act 25 = .ok (.ifCond .ne 5, 3) := by decide +kernel
theorem dX6_act_28 : decode cX6_act 28 = .ok (.iconst 0, 1) := by decide +kernel
theorem dX6_act_29 : decode cX6_act 29 = .ok (.ireturn, 1) := by decide +kernel
theorem dX6_act_30 : decode cX6_act 30 = .ok (.aload_n 0, 1) := by decide +kernel
theorem dX6_act_31 : decode cX6_act 31 = .ok (.getfield 50, 3) := by decide +kernel
theorem dX6_act_34 : decode cX6_act 34 = .ok (.aload_n 0, 1) := by decide +kernel
theorem dX6_act_35 : decode cX6_act 35 = .ok (.getfield 18, 3) := by decide +kernel
theorem dX6_act_38 : decode cX6_act 38 = .ok (.getfield 141, 3) := by decide +kernel
theorem dX6_act_41 : decode cX6_act 41 = .ok (.iload_n 1, 1) := by decide +kernel
theorem dX6_act_42 : decode cX6_act 42 = .ok (.aaload, 1) := by decide +kernel
theorem dX6_act_43 : decode cX6_act 43 = .ok (.getfield 159, 3) := by decide +kernel
theorem dX6_act_46 : decode cX6_act 46 = .ok (.putfield 320, 3) := by decide +kernel
theorem dX6_act_49 : decode cX6_act 49 = .ok (.aload_n 0, 1) := by decide +kernel
theorem dX6_act_50 : decode cX6_act 50 = .ok (.getfield 50, 3) := by decide +kernel
theorem dX6_act_53 : decode cX6_act 53 = .ok (.iload_n 1, 1) := by decide +kernel
theorem dX6_act_54 : decode cX6_act 54 = .ok (.putfield 321, 3) := by decide +kernel
theorem dX6_act_57 : decode cX6_act 57 = .ok (.aload_n 0, 1) := by decide +kernel
theorem dX6_act_58 : decode cX6_act 58 = .ok (.getfield 50, 3) := by decide +kernel
theorem dX6_act_61 : decode cX6_act 61 = .ok (.aload_n 0, 1) := by decide +kernel
theorem dX6_act_62 : decode cX6_act 62 = .ok (.getfield 18, 3) := by decide +kernel
theorem dX6_act_65 : decode cX6_act 65 = .ok (.getfield 141, 3) := by decide +kernel
theorem dX6_act_68 : decode cX6_act 68 = .ok (.iload_n 1, 1) := by decide +kernel
theorem dX6_act_69 : decode cX6_act 69 = .ok (.aaload, 1) := by decide +kernel
theorem dX6_act_70 : decode cX6_act 70 = .ok (.getfield 165, 3) := by decide +kernel
theorem dX6_act_73 : decode cX6_act 73 = .ok (.putfield 324, 3) := by decide +kernel
theorem dX6_act_76 : decode cX6_act 76 = .ok (.aload_n 0, 1) := by decide +kernel
theorem dX6_act_77 : decode cX6_act 77 = .ok (.getfield 50, 3) := by decide +kernel
theorem dX6_act_80 : decode cX6_act 80 = .ok (.iload_n 2, 1) := by decide +kernel
theorem dX6_act_81 : decode cX6_act 81 = .ok (.aload_n 0, 1) := by decide +kernel
theorem dX6_act_82 : decode cX6_act 82 = .ok (.getfield 50, 3) := by decide +kernel
theorem dX6_act_85 : decode cX6_act 85 = .ok (.getfield 320, 3) := by decide +kernel
theorem dX6_act_88 : decode cX6_act 88 = .ok (.iload_n 3, 1) := by decide +kernel
theorem dX6_act_89 : decode cX6_act 89 = .ok (.iconst 0, 1) := by decide +kernel
theorem dX6_act_90 : decode cX6_act 90 = .ok (.invokestatic 325, 3) := by decide +kernel
theorem dX6_act_93 : decode cX6_act 93 = .ok (.ireturn, 1) := by decide +kernel
theorem dX6_trace_0 : decode cX6_trace 0 = .ok (.iload_n 1, 1) := by decide +kernel
theorem dX6_trace_1 : decode cX6_trace 1 = .ok (.ifCond .lt 32, 3) := by decide +kernel
theorem dX6_trace_4 : decode cX6_trace 4 = .ok (.iload_n 1, 1) := by decide +kernel
theorem dX6_trace_5 : decode cX6_trace 5 = .ok (.aload_n 0, 1) := by decide +kernel
theorem dX6_trace_6 : decode cX6_trace 6 = .ok (.getfield 50, 3) := by decide +kernel
theorem dX6_trace_9 : decode cX6_trace 9 = .ok (.getfield 317, 3) := by decide +kernel
theorem dX6_trace_12 : decode cX6_trace 12 = .ok (.if_icmp .ge 21, 3) := by decide +kernel
theorem dX6_trace_15 : decode cX6_trace 15 = .ok (.iload_n 1, 1) := by decide +kernel
theorem dX6_trace_16 : decode cX6_trace 16 = .ok (.bipush 20, 2) := by decide +kernel
theorem dX6_trace_18 : decode cX6_trace 18 = .ok (.if_icmp .ge 15, 3) := by decide +kernel
theorem dX6_trace_21 : decode cX6_trace 21 = .ok (.aload_n 0, 1) := by decide +kernel
theorem dX6_trace_22 : decode cX6_trace 22 = .ok (.getfield 50, 3) := by decide +kernel
theorem dX6_trace_25 : decode cX6_trace 25 = .ok (.getfield 329, 3) := by decide +kernel
theorem dX6_trace_28 : decode cX6_trace 28 = .ok (.iload_n 1, 1) := by decide +kernel
theorem dX6_trace_29 : decode cX6_trace 29 = .ok (.iaload, 1) := by decide +kernel
theorem dX6_trace_30 : decode cX6_trace 30 = .ok (.goto 4, 3) := by decide +kernel
theorem dX6_trace_33 : decode cX6_trace 33 = .ok (.iconst (-1), 1) := by decide +kernel
theorem dX6_trace_34 : decode cX6_trace 34 = .ok (.ireturn, 1) := by decide +kernel
theorem dX6_image_0 : decode cX6_image 0 = .ok (.aload_n 0, 1) := by decide +kernel
theorem dX6_image_1 : decode cX6_image 1 = .ok (.getfield 22, 3) := by decide +kernel
theorem dX6_image_4 : decode cX6_image 4 = .ok (.aload_n 0, 1) := by decide +kernel
theorem dX6_image_5 : decode cX6_image 5 = .ok (.getfield 18, 3) := by decide +kernel
theorem dX6_image_8 : decode cX6_image 8 = .ok (.invokevirtual 193, 3) := by decide +kernel
theorem dX6_image_11 : decode cX6_image 11 = .ok (.aload_n 0, 1) := by decide +kernel
theorem dX6_image_12 : decode cX6_image 12 = .ok (.iconst 1, 1) := by decide +kernel
theorem dX6_image_13 : decode cX6_image 13 = .ok (.putfield 332, 3) := by decide +kernel
theorem dX6_image_16 : decode cX6_image 16 = .ok (.aload_n 0, 1) := by decide +kernel
theorem dX6_image_17 : decode cX6_image 17 = .ok (.getfield 18, 3) := by decide +kernel
theorem dX6_image_20 : decode cX6_image 20 = .ok (.getfield 268, 3) := by decide +kernel
theorem dX6_image_23 : decode cX6_image 23 = .ok (.ireturn, 1) := by decide +kernel
theorem dX6_restore_0 : decode cX6_restore 0 = .ok (.aload_n 0, 1) := by decide +kernel
theorem dX6_restore_1 : decode cX6_restore 1 = .ok (.getfield 332, 3) := by decide +kernel
theorem dX6_restore_4 : decode cX6_restore 4 = .ok (.ifCond .ne 10, 3) := by decide +kernel
theorem dX6_restore_7 : decode cX6_restore 7 = .ok (.aload_n 0, 1) := by decide +kernel
theorem dX6_restore_8 : decode cX6_restore 8 = .ok (.bipush 6, 2) := by decide +kernel
theorem dX6_restore_10 : decode cX6_restore 10 = .ok (.invokevirtual 83, 3) := by decide +kernel
theorem dX6_restore_13 : decode cX6_restore 13 = .ok (.ireturn, 1) := by decide +kernel
theorem dX6_restore_14 : decode cX6_restore 14 = .ok (.aload_n 0, 1) := by decide +kernel
theorem dX6_restore_15 : decode cX6_restore 15 = .ok (.getfield 18, 3) := by decide +kernel
theorem dX6_restore_18 : decode cX6_restore 18 = .ok (.aload_n 0, 1) := by decide +kernel
theorem dX6_restore_19 : decode cX6_restore 19 = .ok (.getfield 22, 3) := by decide +kernel
theorem dX6_restore_22 : decode cX6_restore 22 = .ok (.invokevirtual 193, 3) := by decide +kernel
theorem dX6_restore_25 : decode cX6_restore 25 = .ok (.iconst 0, 1) := by decide +kernel
theorem dX6_restore_26 : decode cX6_restore 26 = .ok (.istore_n 1, 1) := by decide +kernel
theorem dX6_restore_27 : decode cX6_restore 27 = .ok (.iload_n 1, 1) := by decide +kernel
theorem dX6_restore_28 : decode cX6_restore 28 = .ok (.bipush 8, 2) := by decide +kernel
theorem dX6_restore_30 : decode cX6_restore 30 = .ok (.if_icmp .ge 38, 3) := by decide +kernel
theorem dX6_restore_33 : decode cX6_restore 33 = .ok (.aload_n 0, 1) := by decide +kernel
theorem dX6_restore_34 : decode cX6_restore 34 = .ok (.getfield 11, 3) := by decide +kernel
theorem dX6_restore_37 : decode cX6_restore 37 = .ok (.iload_n 1, 1) := by decide +kernel
theorem dX6_restore_38 : decode cX6_restore 38 = .ok (.aaload, 1) := by decide +kernel
theorem dX6_restore_39 : decode cX6_restore 39 = .ok (.getfield 138, 3) := by decide +kernel
theorem dX6_restore_42 : decode cX6_restore 42 = .ok (.aload_n 0, 1) := by decide +kernel
theorem dX6_restore_43 : decode cX6_restore 43 = .ok (.getfield 18, 3) := by decide +kernel
theorem dX6_restore_46 : decode cX6_restore 46 = .ok (.getfield 268, 3) := by decide +kernel
theorem dX6_restore_49 : decode cX6_restore 49 = .ok (.if_icmp .lt 13, 3) := by decide +kernel
theorem dX6_restore_52 : decode cX6_restore 52 = .ok (.aload_n 0, 1) := by decide +kernel
theorem dX6_restore_53 : decode cX6_restore 53 = .ok (.getfield 11, 3) := by decide +kernel
theorem dX6_restore_56 : decode cX6_restore 56 = .ok (.iload_n 1, 1) := by decide +kernel
theorem dX6_restore_57 : decode cX6_restore 57 = .ok (.aaload, 1) := by decide +kernel
theorem dX6_restore_58 : decode cX6_restore 58 = .ok (.iconst (-1), 1) := by decide +kernel
theorem dX6_restore_59 : decode cX6_restore 59 = .ok (.invokevirtual 126, 3) := by decide +kernel
theorem dX6_restore_62 : decode cX6_restore 62 = .ok (.iinc 1 1, 3) := by decide +kernel
theorem dX6_restore_65 : decode cX6_restore 65 = .ok (.goto (-38), 3) := by decide +kernel
theorem dX6_restore_68 : decode cX6_restore 68 = .ok (.aload_n 0, 1) := by decide +kernel
theorem dX6_restore_69 : decode cX6_restore 69 = .ok (.getfield 18, 3) := by decide +kernel
theorem dX6_restore_72 : decode cX6_restore 72 = .ok (.getfield 268, 3) := by decide +kernel
theorem dX6_restore_75 : decode cX6_restore 75 = .ok (.ireturn, 1) := by decide +kernel
theorem dX6_status_0 : decode cX6_status 0 = .ok (.iload_n 1, 1) := by decide +kernel
theorem dX6_status_1 : decode cX6_status 1 = .ok (.tableswitch 135 0 9 #[55, 63, 71, 79, 87, 95, 103, 111, 119, 127], 55) := by decide +kernel
theorem dX6_status_56 : decode cX6_status 56 = .ok (.aload_n 0, 1) := by decide +kernel
theorem dX6_status_57 : decode cX6_status 57 = .ok (.getfield 18, 3) := by decide +kernel
theorem dX6_status_60 : decode cX6_status 60 = .ok (.getfield 268, 3) := by decide +kernel
theorem dX6_status_63 : decode cX6_status 63 = .ok (.ireturn, 1) := by decide +kernel
theorem dX6_status_64 : decode cX6_status 64 = .ok (.aload_n 0, 1) := by decide +kernel
theorem dX6_status_65 : decode cX6_status 65 = .ok (.getfield 18, 3) := by decide +kernel
theorem dX6_status_68 : decode cX6_status 68 = .ok (.invokevirtual 336, 3) := by decide +kernel
theorem dX6_status_71 : decode cX6_status 71 = .ok (.ireturn, 1) := by decide +kernel
theorem dX6_status_72 : decode cX6_status 72 = .ok (.aload_n 0, 1) := by decide +kernel
theorem dX6_status_73 : decode cX6_status 73 = .ok (.getfield 18, 3) := by decide +kernel
theorem dX6_status_76 : decode cX6_status 76 = .ok (.getfield 181, 3) := by decide +kernel
theorem dX6_status_79 : decode cX6_status 79 = .ok (.ireturn, 1) := by decide +kernel
theorem dX6_status_80 : decode cX6_status 80 = .ok (.aload_n 0, 1) := by decide +kernel
theorem dX6_status_81 : decode cX6_status 81 = .ok (.getfield 18, 3) := by decide +kernel
theorem dX6_status_84 : decode cX6_status 84 = .ok (.getfield 184, 3) := by decide +kernel
theorem dX6_status_87 : decode cX6_status 87 = .ok (.ireturn, 1) := by decide +kernel
theorem dX6_status_88 : decode cX6_status 88 = .ok (.aload_n 0, 1) := by decide +kernel
theorem dX6_status_89 : decode cX6_status 89 = .ok (.getfield 18, 3) := by decide +kernel
theorem dX6_status_92 : decode cX6_status 92 = .ok (.getfield 187, 3) := by decide +kernel
theorem dX6_status_95 : decode cX6_status 95 = .ok (.ireturn, 1) := by decide +kernel
theorem dX6_status_96 : decode cX6_status 96 = .ok (.aload_n 0, 1) := by decide +kernel
theorem dX6_status_97 : decode cX6_status 97 = .ok (.getfield 18, 3) := by decide +kernel
theorem dX6_status_100 : decode cX6_status 100 = .ok (.getfield 339, 3) := by decide +kernel
theorem dX6_status_103 : decode cX6_status 103 = .ok (.ireturn, 1) := by decide +kernel
theorem dX6_status_104 : decode cX6_status 104 = .ok (.aload_n 0, 1) := by decide +kernel
theorem dX6_status_105 : decode cX6_status 105 = .ok (.getfield 18, 3) := by decide +kernel
theorem dX6_status_108 : decode cX6_status 108 = .ok (.getfield 342, 3) := by decide +kernel
theorem dX6_status_111 : decode cX6_status 111 = .ok (.ireturn, 1) := by decide +kernel
theorem dX6_status_112 : decode cX6_status 112 = .ok (.aload_n 0, 1) := by decide +kernel
theorem dX6_status_113 : decode cX6_status 113 = .ok (.getfield 18, 3) := by decide +kernel
theorem dX6_status_116 : decode cX6_status 116 = .ok (.getfield 345, 3) := by decide +kernel
theorem dX6_status_119 : decode cX6_status 119 = .ok (.ireturn, 1) := by decide +kernel
theorem dX6_status_120 : decode cX6_status 120 = .ok (.aload_n 0, 1) := by decide +kernel
theorem dX6_status_121 : decode cX6_status 121 = .ok (.getfield 18, 3) := by decide +kernel
theorem dX6_status_124 : decode cX6_status 124 = .ok (.getfield 314, 3) := by decide +kernel
theorem dX6_status_127 : decode cX6_status 127 = .ok (.ireturn, 1) := by decide +kernel
theorem dX6_status_128 : decode cX6_status 128 = .ok (.aload_n 0, 1) := by decide +kernel
theorem dX6_status_129 : decode cX6_status 129 = .ok (.getfield 50, 3) := by decide +kernel
theorem dX6_status_132 : decode cX6_status 132 = .ok (.getfield 317, 3) := by decide +kernel
theorem dX6_status_135 : decode cX6_status 135 = .ok (.ireturn, 1) := by decide +kernel
theorem dX6_status_136 : decode cX6_status 136 = .ok (.iload_n 1, 1) := by decide +kernel
theorem dX6_status_137 : decode cX6_status 137 = .ok (.bipush 11, 2) := by decide +kernel
theorem dX6_status_139 : decode cX6_status 139 = .ok (.bipush 17, 2) := by decide +kernel
theorem dX6_status_141 : decode cX6_status 141 = .ok (.invokestatic 87, 3) := by decide +kernel
theorem dX6_status_144 : decode cX6_status 144 = .ok (.ifCond .eq 15, 3) := by decide +kernel
theorem dX6_status_147 : decode cX6_status 147 = .ok (.aload_n 0, 1) := by decide +kernel
theorem dX6_status_148 : decode cX6_status 148 = .ok (.getfield 61, 3) := by decide +kernel
theorem dX6_status_151 : decode cX6_status 151 = .ok (.iload_n 1, 1) := by decide +kernel
theorem dX6_status_152 : decode cX6_status 152 = .ok (.bipush 10, 2) := by decide +kernel
theorem dX6_status_154 : decode cX6_status 154 = .ok (.isub, 1) := by decide +kernel
theorem dX6_status_155 : decode cX6_status 155 = .ok (.iaload, 1) := by decide +kernel
theorem dX6_status_156 : decode cX6_status 156 = .ok (.goto 4, 3) := by decide +kernel
theorem dX6_status_159 : decode cX6_status 159 = .ok (.iconst (-1), 1) := by decide +kernel
theorem dX6_status_160 : decode cX6_status 160 = .ok (.ireturn, 1) := by decide +kernel
theorem dX6_refused_0 : decode cX6_refused 0 = .ok (.iload_n 1, 1) := by decide +kernel
theorem dX6_refused_1 : decode cX6_refused 1 = .ok (.ifCond .le 22, 3) := by decide +kernel
theorem dX6_refused_4 : decode cX6_refused 4 = .ok (.iload_n 1, 1) := by decide +kernel
theorem dX6_refused_5 : decode cX6_refused 5 = .ok (.aload_n 0, 1) := by decide +kernel
theorem dX6_refused_6 : decode cX6_refused 6 = .ok (.getfield 61, 3) := by decide +kernel
theorem dX6_refused_9 : decode cX6_refused 9 = .ok (.arraylength, 1) := by decide +kernel
theorem dX6_refused_10 : decode cX6_refused 10 = .ok (.if_icmp .ge 13, 3) := by decide +kernel
theorem dX6_refused_13 : decode cX6_refused 13 = .ok (.aload_n 0, 1) := by decide +kernel
theorem dX6_refused_14 : decode cX6_refused 14 = .ok (.getfield 61, 3) := by decide +kernel
theorem dX6_refused_17 : decode cX6_refused 17 = .ok (.iload_n 1, 1) := by decide +kernel
theorem dX6_refused_18 : decode cX6_refused 18 = .ok (.dup2, 1) := by decide +kernel
theorem dX6_refused_19 : decode cX6_refused 19 = .ok (.iaload, 1) := by decide +kernel
theorem dX6_refused_20 : decode cX6_refused 20 = .ok (.iconst 1, 1) := by decide +kernel
theorem dX6_refused_21 : decode cX6_refused 21 = .ok (.iadd, 1) := by decide +kernel
theorem dX6_refused_22 : decode cX6_refused 22 = .ok (.iastore, 1) := by decide +kernel
theorem dX6_refused_23 : decode cX6_refused 23 = .ok (.iload_n 1, 1) := by decide +kernel
theorem dX6_refused_24 : decode cX6_refused 24 = .ok (.ineg, 1) := by decide +kernel
theorem dX6_refused_25 : decode cX6_refused 25 = .ok (.ireturn, 1) := by decide +kernel
theorem dX6_isWithin_0 : decode cX6_isWithin 0 = .ok (.iload_n 0, 1) := by decide +kernel
theorem dX6_isWithin_1 : decode cX6_isWithin 1 = .ok (.iload_n 1, 1) := by decide +kernel
theorem dX6_isWithin_2 : decode cX6_isWithin 2 = .ok (.if_icmp .lt 12, 3) := by decide +kernel
theorem dX6_isWithin_5 : decode cX6_isWithin 5 = .ok (.iload_n 0, 1) := by decide +kernel
theorem dX6_isWithin_6 : decode cX6_isWithin 6 = .ok (.iload_n 2, 1) := by decide +kernel
theorem dX6_isWithin_7 : decode cX6_isWithin 7 = .ok (.if_icmp .gt 7, 3) := by decide +kernel
theorem dX6_isWithin_10 : decode cX6_isWithin 10 = .ok (.iconst 1, 1) := by decide +kernel
theorem dX6_isWithin_11 : decode cX6_isWithin 11 = .ok (.goto 4, 3) := by decide +kernel
theorem dX6_isWithin_14 : decode cX6_isWithin 14 = .ok (.iconst 0, 1) := by decide +kernel
theorem dX6_isWithin_15 : decode cX6_isWithin 15 = .ok (.ireturn, 1) := by decide +kernel
theorem dX6_isShelf_0 : decode cX6_isShelf 0 = .ok (.iload_n 0, 1) := by decide +kernel
theorem dX6_isShelf_1 : decode cX6_isShelf 1 = .ok (.ifCond .lt 13, 3) := by decide +kernel
theorem dX6_isShelf_4 : decode cX6_isShelf 4 = .ok (.iload_n 0, 1) := by decide +kernel
theorem dX6_isShelf_5 : decode cX6_isShelf 5 = .ok (.bipush 8, 2) := by decide +kernel
theorem dX6_isShelf_7 : decode cX6_isShelf 7 = .ok (.if_icmp .ge 7, 3) := by decide +kernel
theorem dX6_isShelf_10 : decode cX6_isShelf 10 = .ok (.iconst 1, 1) := by decide +kernel
theorem dX6_isShelf_11 : decode cX6_isShelf 11 = .ok (.goto 4, 3) := by decide +kernel
theorem dX6_isShelf_14 : decode cX6_isShelf 14 = .ok (.iconst 0, 1) := by decide +kernel
theorem dX6_isShelf_15 : decode cX6_isShelf 15 = .ok (.ireturn, 1) := by decide +kernel
theorem dX6_isCell_0 : decode cX6_isCell 0 = .ok (.aload_n 0, 1) := by decide +kernel
theorem dX6_isCell_1 : decode cX6_isCell 1 = .ok (.getfield 18, 3) := by decide +kernel
theorem dX6_isCell_4 : decode cX6_isCell 4 = .ok (.iload_n 1, 1) := by decide +kernel
theorem dX6_isCell_5 : decode cX6_isCell 5 = .ok (.invokevirtual 123, 3) := by decide +kernel
theorem dX6_isCell_8 : decode cX6_isCell 8 = .ok (.ifCond .eq 23, 3) := by decide +kernel
theorem dX6_isCell_11 : decode cX6_isCell 11 = .ok (.aload_n 0, 1) := by decide +kernel
theorem dX6_isCell_12 : decode cX6_isCell 12 = .ok (.getfield 18, 3) := by decide +kernel
theorem dX6_isCell_15 : decode cX6_isCell 15 = .ok (.getfield 141, 3) := by decide +kernel
theorem dX6_isCell_18 : decode cX6_isCell 18 = .ok (.iload_n 1, 1) := by decide +kernel
theorem dX6_isCell_19 : decode cX6_isCell 19 = .ok (.aaload, 1) := by decide +kernel
theorem dX6_isCell_20 : decode cX6_isCell 20 = .ok (.iload_n 2, 1) := by decide +kernel
theorem dX6_isCell_21 : decode cX6_isCell 21 = .ok (.invokevirtual 171, 3) := by decide +kernel
theorem dX6_isCell_24 : decode cX6_isCell 24 = .ok (.ifCond .eq 7, 3) := by decide +kernel
theorem dX6_isCell_27 : decode cX6_isCell 27 = .ok (.iconst 1, 1) := by decide +kernel
theorem dX6_isCell_28 : decode cX6_isCell 28 = .ok (.goto 4, 3) := by decide +kernel
theorem dX6_isCell_31 : decode cX6_isCell 31 = .ok (.iconst 0, 1) := by decide +kernel
theorem dX6_isCell_32 : decode cX6_isCell 32 = .ok (.ireturn, 1) := by decide +kernel
theorem dX6_mayBeDunk_0 : decode cX6_mayBeDunk 0 = .ok (.iload_n 0, 1) := by decide +kernel
theorem dX6_mayBeDunk_1 : decode cX6_mayBeDunk 1 = .ok (.iconst 0, 1) := by decide +kernel
theorem dX6_mayBeDunk_2 : decode cX6_mayBeDunk 2 = .ok (.bipush 12, 2) := by decide +kernel
theorem dX6_mayBeDunk_4 : decode cX6_mayBeDunk 4 = .ok (.invokestatic 87, 3) := by decide +kernel
theorem dX6_mayBeDunk_7 : decode cX6_mayBeDunk 7 = .ok (.ifCond .eq 27, 3) := by decide +kernel
theorem dX6_mayBeDunk_10 : decode cX6_mayBeDunk 10 = .ok (.iload_n 1, 1) := by decide +kernel
theorem dX6_mayBeDunk_11 : decode cX6_mayBeDunk 11 = .ok (.iconst 0, 1) := by decide +kernel
theorem dX6_mayBeDunk_12 : decode cX6_mayBeDunk 12 = .ok (.bipush 60, 2) := by decide +kernel
theorem dX6_mayBeDunk_14 : decode cX6_mayBeDunk 14 = .ok (.invokestatic 87, 3) := by decide +kernel
theorem dX6_mayBeDunk_17 : decode cX6_mayBeDunk 17 = .ok (.ifCond .eq 17, 3) := by decide +kernel
theorem dX6_mayBeDunk_20 : decode cX6_mayBeDunk 20 = .ok (.iload_n 2, 1) := by decide +kernel
theorem dX6_mayBeDunk_21 : decode cX6_mayBeDunk 21 = .ok (.iconst 0, 1) := by decide +kernel
theorem dX6_mayBeDunk_22 : decode cX6_mayBeDunk 22 = .ok (.bipush 60, 2) := by decide +kernel
theorem dX6_mayBeDunk_24 : decode cX6_mayBeDunk 24 = .ok (.invokestatic 87, 3) := by decide +kernel
theorem dX6_mayBeDunk_27 : decode cX6_mayBeDunk 27 = .ok (.ifCond .eq 7, 3) := by decide +kernel
theorem dX6_mayBeDunk_30 : decode cX6_mayBeDunk 30 = .ok (.iconst 1, 1) := by decide +kernel
theorem dX6_mayBeDunk_31 : decode cX6_mayBeDunk 31 = .ok (.goto 4, 3) := by decide +kernel
theorem dX6_mayBeDunk_34 : decode cX6_mayBeDunk 34 = .ok (.iconst 0, 1) := by decide +kernel
theorem dX6_mayBeDunk_35 : decode cX6_mayBeDunk 35 = .ok (.ireturn, 1) := by decide +kernel
theorem dX6_whyNoRow_0 : decode cX6_whyNoRow 0 = .ok (.iload_n 1, 1) := by decide +kernel
theorem dX6_whyNoRow_1 : decode cX6_whyNoRow 1 = .ok (.invokestatic 79, 3) := by decide +kernel
theorem dX6_whyNoRow_4 : decode cX6_whyNoRow 4 = .ok (.ifCond .ne 5, 3) := by decide +kernel
theorem dX6_whyNoRow_7 : decode cX6_whyNoRow 7 = .ok (.iconst 1, 1) := by decide +kernel
theorem dX6_whyNoRow_8 : decode cX6_whyNoRow 8 = .ok (.ireturn, 1) := by decide +kernel
theorem dX6_whyNoRow_9 : decode cX6_whyNoRow 9 = .ok (.aload_n 0, 1) := by decide +kernel
theorem dX6_whyNoRow_10 : decode cX6_whyNoRow 10 = .ok (.getfield 11, 3) := by decide +kernel
theorem dX6_whyNoRow_13 : decode cX6_whyNoRow 13 = .ok (.iload_n 1, 1) := by decide +kernel
theorem dX6_whyNoRow_14 : decode cX6_whyNoRow 14 = .ok (.aaload, 1) := by decide +kernel
theorem dX6_whyNoRow_15 : decode cX6_whyNoRow 15 = .ok (.invokevirtual 134, 3) := by decide +kernel
theorem dX6_whyNoRow_18 : decode cX6_whyNoRow 18 = .ok (.ifCond .eq 5, 3) := by decide +kernel
theorem dX6_whyNoRow_21 : decode cX6_whyNoRow 21 = .ok (.iconst 0, 1) := by decide +kernel
theorem dX6_whyNoRow_22 : decode cX6_whyNoRow 22 = .ok (.ireturn, 1) := by decide +kernel
theorem dX6_whyNoRow_23 : decode cX6_whyNoRow 23 = .ok (.aload_n 0, 1) := by decide +kernel
theorem dX6_whyNoRow_24 : decode cX6_whyNoRow 24 = .ok (.getfield 11, 3) := by decide +kernel
theorem dX6_whyNoRow_27 : decode cX6_whyNoRow 27 = .ok (.iload_n 1, 1) := by decide +kernel
theorem dX6_whyNoRow_28 : decode cX6_whyNoRow 28 = .ok (.aaload, 1) := by decide +kernel
theorem dX6_whyNoRow_29 : decode cX6_whyNoRow 29 = .ok (.getfield 138, 3) := by decide +kernel
theorem dX6_whyNoRow_32 : decode cX6_whyNoRow 32 = .ok (.iconst (-1), 1) := by decide +kernel
theorem dX6_whyNoRow_33 : decode cX6_whyNoRow 33 = .ok (.if_icmp .ne 7, 3) := by decide +kernel
theorem dX6_whyNoRow_36 : decode cX6_whyNoRow 36 = .ok (.iconst 3, 1) := by decide +kernel
theorem dX6_whyNoRow_37 : decode cX6_whyNoRow 37 = .ok (.goto 4, 3) := by decide +kernel
theorem dX6_whyNoRow_40 : decode cX6_whyNoRow 40 = .ok (.iconst 2, 1) := by decide +kernel
theorem dX6_whyNoRow_41 : decode cX6_whyNoRow 41 = .ok (.ireturn, 1) := by decide +kernel
theorem dX6_whyNoCopy_0 : decode cX6_whyNoCopy 0 = .ok (.aload_n 0, 1) := by decide +kernel
theorem dX6_whyNoCopy_1 : decode cX6_whyNoCopy 1 = .ok (.iload_n 1, 1) := by decide +kernel
theorem dX6_whyNoCopy_2 : decode cX6_whyNoCopy 2 = .ok (.invokevirtual 95, 3) := by decide +kernel
theorem dX6_whyNoCopy_5 : decode cX6_whyNoCopy 5 = .ok (.istore 6, 2) := by decide +kernel
theorem dX6_whyNoCopy_7 : decode cX6_whyNoCopy 7 = .ok (.aload_n 0, 1) := by decide +kernel
theorem dX6_whyNoCopy_8 : decode cX6_whyNoCopy 8 = .ok (.iload_n 2, 1) := by decide +kernel
theorem dX6_whyNoCopy_9 : decode cX6_whyNoCopy 9 = .ok (.invokevirtual 95, 3) := by decide +kernel
theorem dX6_whyNoCopy_12 : decode cX6_whyNoCopy 12 = .ok (.istore 7, 2) := by decide +kernel
theorem dX6_whyNoCopy_14 : decode cX6_whyNoCopy 14 = .ok (.iload 6, 2) := by decide +kernel
theorem dX6_whyNoCopy_16 : decode cX6_whyNoCopy 16 = .ok (.iconst 1, 1) := by decide +kernel
theorem dX6_whyNoCopy_17 : decode cX6_whyNoCopy 17 = .ok (.if_icmp .eq 9, 3) := by decide +kernel
theorem dX6_whyNoCopy_20 : decode cX6_whyNoCopy 20 = .ok (.iload 7, 2) := by decide +kernel
theorem dX6_whyNoCopy_22 : decode cX6_whyNoCopy 22 = .ok (.iconst 1, 1) := by decide +kernel
theorem dX6_whyNoCopy_23 : decode cX6_whyNoCopy 23 = .ok (.if_icmp .ne 5, 3) := by decide +kernel
theorem dX6_whyNoCopy_26 : decode cX6_whyNoCopy 26 = .ok (.iconst 1, 1) := by decide +kernel
theorem dX6_whyNoCopy_27 : decode cX6_whyNoCopy 27 = .ok (.ireturn, 1) := by decide +kernel
theorem dX6_whyNoCopy_28 : decode cX6_whyNoCopy 28 = .ok (.iload 6, 2) := by decide +kernel
theorem dX6_whyNoCopy_30 : decode cX6_whyNoCopy 30 = .ok (.iconst 2, 1) := by decide +kernel
theorem dX6_whyNoCopy_31 : decode cX6_whyNoCopy 31 = .ok (.if_icmp .eq 9, 3) := by decide +kernel
theorem dX6_whyNoCopy_34 : decode cX6_whyNoCopy 34 = .ok (.iload 7, 2) := by decide +kernel
theorem dX6_whyNoCopy_36 : decode cX6_whyNoCopy 36 = .ok (.iconst 2, 1) := by decide +kernel
theorem dX6_whyNoCopy_37 : decode cX6_whyNoCopy 37 = .ok (.if_icmp .ne 5, 3) := by decide +kernel
theorem dX6_whyNoCopy_40 : decode cX6_whyNoCopy 40 = .ok (.iconst 2, 1) := by decide +kernel
theorem dX6_whyNoCopy_41 : decode cX6_whyNoCopy 41 = .ok (.ireturn, 1) := by decide +kernel
theorem dX6_whyNoCopy_42 : decode cX6_whyNoCopy 42 = .ok (.iload 6, 2) := by decide +kernel
theorem dX6_whyNoCopy_44 : decode cX6_whyNoCopy 44 = .ok (.iconst 3, 1) := by decide +kernel
theorem dX6_whyNoCopy_45 : decode cX6_whyNoCopy 45 = .ok (.if_icmp .eq 9, 3) := by decide +kernel
theorem dX6_whyNoCopy_48 : decode cX6_whyNoCopy 48 = .ok (.iload 7, 2) := by decide +kernel
theorem dX6_whyNoCopy_50 : decode cX6_whyNoCopy 50 = .ok (.iconst 3, 1) := by decide +kernel
theorem dX6_whyNoCopy_51 : decode cX6_whyNoCopy 51 = .ok (.if_icmp .ne 5, 3) := by decide +kernel
theorem dX6_whyNoCopy_54 : decode cX6_whyNoCopy 54 = .ok (.iconst 3, 1) := by decide +kernel
theorem dX6_whyNoCopy_55 : decode cX6_whyNoCopy 55 = .ok (.ireturn, 1) := by decide +kernel
theorem dX6_whyNoCopy_56 : decode cX6_whyNoCopy 56 = .ok (.aload_n 0, 1) := by decide +kernel
theorem dX6_whyNoCopy_57 : decode cX6_whyNoCopy 57 = .ok (.getfield 11, 3) := by decide +kernel
theorem dX6_whyNoCopy_60 : decode cX6_whyNoCopy 60 = .ok (.iload_n 1, 1) := by decide +kernel
theorem dX6_whyNoCopy_61 : decode cX6_whyNoCopy 61 = .ok (.aaload, 1) := by decide +kernel
theorem dX6_whyNoCopy_62 : decode cX6_whyNoCopy 62 = .ok (.astore 8, 2) := by decide +kernel
theorem dX6_whyNoCopy_64 : decode cX6_whyNoCopy 64 = .ok (.aload_n 0, 1) := by decide +kernel
theorem dX6_whyNoCopy_65 : decode cX6_whyNoCopy 65 = .ok (.getfield 11, 3) := by decide +kernel
theorem dX6_whyNoCopy_68 : decode cX6_whyNoCopy 68 = .ok (.iload_n 2, 1) := by decide +kernel
theorem dX6_whyNoCopy_69 : decode cX6_whyNoCopy 69 = .ok (.aaload, 1) := by decide +kernel
theorem dX6_whyNoCopy_70 : decode cX6_whyNoCopy 70 = .ok (.astore 9, 2) := by decide +kernel
theorem dX6_whyNoCopy_72 : decode cX6_whyNoCopy 72 = .ok (.aload 8, 2) := by decide +kernel
theorem dX6_whyNoCopy_74 : decode cX6_whyNoCopy 74 = .ok (.getfield 348, 3) := by decide +kernel
theorem dX6_whyNoCopy_77 : decode cX6_whyNoCopy 77 = .ok (.aload 9, 2) := by decide +kernel
theorem dX6_whyNoCopy_79 : decode cX6_whyNoCopy 79 = .ok (.getfield 348, 3) := by decide +kernel
theorem dX6_whyNoCopy_82 : decode cX6_whyNoCopy 82 = .ok (.if_icmp .eq 5, 3) := by decide +kernel
theorem dX6_whyNoCopy_85 : decode cX6_whyNoCopy 85 = .ok (.iconst 2, 1) := by decide +kernel
theorem dX6_whyNoCopy_86 : decode cX6_whyNoCopy 86 = .ok (.ireturn, 1) := by decide +kernel
theorem dX6_whyNoCopy_87 : decode cX6_whyNoCopy 87 = .ok (.iload 5, 2) := by decide +kernel
theorem dX6_whyNoCopy_89 : decode cX6_whyNoCopy 89 = .ok (.ifCond .ge 5, 3) := by decide +kernel
theorem dX6_whyNoCopy_92 : decode cX6_whyNoCopy 92 = .ok (.iconst 4, 1) := by decide +kernel
theorem dX6_whyNoCopy_93 : decode cX6_whyNoCopy 93 = .ok (.ireturn, 1) := by decide +kernel
theorem dX6_whyNoCopy_94 : decode cX6_whyNoCopy 94 = .ok (.iload_n 3, 1) := by decide +kernel
theorem dX6_whyNoCopy_95 : decode cX6_whyNoCopy 95 = .ok (.ifCond .lt 33, 3) := by decide +kernel
theorem dX6_whyNoCopy_98 : decode cX6_whyNoCopy 98 = .ok (.iload 4, 2) := by decide +kernel
theorem dX6_whyNoCopy_100 : decode cX6_whyNoCopy 100 = .ok (.ifCond .lt 28, 3) := by decide +kernel
theorem dX6_whyNoCopy_103 : decode cX6_whyNoCopy 103 = .ok (.iload_n 3, 1) := by decide +kernel
theorem dX6_whyNoCopy_104 : decode cX6_whyNoCopy 104 = .ok (.aload 8, 2) := by decide +kernel
theorem dX6_whyNoCopy_106 : decode cX6_whyNoCopy 106 = .ok (.getfield 351, 3) := by decide +kernel
theorem dX6_whyNoCopy_109 : decode cX6_whyNoCopy 109 = .ok (.iload 5, 2) := by decide +kernel
theorem dX6_whyNoCopy_111 : decode cX6_whyNoCopy 111 = .ok (.isub, 1) := by decide +kernel
theorem dX6_whyNoCopy_112 : decode cX6_whyNoCopy 112 = .ok (.if_icmp .gt 16, 3) := by decide +kernel
theorem dX6_whyNoCopy_115 : decode cX6_whyNoCopy 115 = .ok (.iload 4, 2) := by decide +kernel
theorem dX6_whyNoCopy_117 : decode cX6_whyNoCopy 117 = .ok (.aload 9, 2) := by decide +kernel
theorem dX6_whyNoCopy_119 : decode cX6_whyNoCopy 119 = .ok (.getfield 351, 3) := by decide +kernel
theorem dX6_whyNoCopy_122 : decode cX6_whyNoCopy 122 = .ok (.iload 5, 2) := by decide +kernel
theorem dX6_whyNoCopy_124 : decode cX6_whyNoCopy 124 = .ok (.isub, 1) := by decide +kernel
theorem dX6_whyNoCopy_125 : decode cX6_whyNoCopy 125 = .ok (.if_icmp .le 7, 3) := by decide +kernel
theorem dX6_whyNoCopy_128 : decode cX6_whyNoCopy 128 = .ok (.iconst 5, 1) := by decide +kernel
theorem dX6_whyNoCopy_129 : decode cX6_whyNoCopy 129 = .ok (.goto 4, 3) := by decide +kernel
theorem dX6_whyNoCopy_132 : decode cX6_whyNoCopy 132 = .ok (.iconst 0, 1) := by decide +kernel
theorem dX6_whyNoCopy_133 : decode cX6_whyNoCopy 133 = .ok (.ireturn, 1) := by decide +kernel
theorem dX6_whyNoDunk_0 : decode cX6_whyNoDunk 0 = .ok (.aload_n 0, 1) := by decide +kernel
theorem dX6_whyNoDunk_1 : decode cX6_whyNoDunk 1 = .ok (.getfield 18, 3) := by decide +kernel
theorem dX6_whyNoDunk_4 : decode cX6_whyNoDunk 4 = .ok (.iload_n 1, 1) := by decide +kernel
theorem dX6_whyNoDunk_5 : decode cX6_whyNoDunk 5 = .ok (.invokevirtual 123, 3) := by decide +kernel
theorem dX6_whyNoDunk_8 : decode cX6_whyNoDunk 8 = .ok (.ifCond .ne 5, 3) := by decide +kernel
theorem dX6_whyNoDunk_11 : decode cX6_whyNoDunk 11 = .ok (.iconst 1, 1) := by decide +kernel
theorem dX6_whyNoDunk_12 : decode cX6_whyNoDunk 12 = .ok (.ireturn, 1) := by decide +kernel
theorem dX6_whyNoDunk_13 : decode cX6_whyNoDunk 13 = .ok (.iload_n 2, 1) := by decide +kernel
theorem dX6_whyNoDunk_14 : decode cX6_whyNoDunk 14 = .ok (.iload_n 3, 1) := by decide +kernel
theorem dX6_whyNoDunk_15 : decode cX6_whyNoDunk 15 = .ok (.iload 4, 2) := by decide +kernel
theorem dX6_whyNoDunk_17 : decode cX6_whyNoDunk 17 = .ok (.invokestatic 227, 3) := by decide +kernel
theorem dX6_whyNoDunk_20 : decode cX6_whyNoDunk 20 = .ok (.ifCond .eq 7, 3) := by decide +kernel
theorem dX6_whyNoDunk_23 : decode cX6_whyNoDunk 23 = .ok (.iconst 0, 1) := by decide +kernel
theorem dX6_whyNoDunk_24 : decode cX6_whyNoDunk 24 = .ok (.goto 5, 3) := by decide +kernel
theorem dX6_whyNoDunk_27 : decode cX6_whyNoDunk 27 = .ok (.bipush 6, 2) := by decide +kernel
theorem dX6_whyNoDunk_29 : decode cX6_whyNoDunk 29 = .ok (.ireturn, 1) := by decide +kernel
theorem dX6_whyNotInTruth_0 : decode cX6_whyNotInTruth 0 = .ok (.aload_n 0, 1) := by decide +kernel
theorem dX6_whyNotInTruth_1 : decode cX6_whyNotInTruth 1 = .ok (.getfield 18, 3) := by decide +kernel
theorem dX6_whyNotInTruth_4 : decode cX6_whyNotInTruth 4 = .ok (.iload_n 1, 1) := by decide +kernel
theorem dX6_whyNotInTruth_5 : decode cX6_whyNotInTruth 5 = .ok (.invokevirtual 123, 3) := by decide +kernel
theorem dX6_whyNotInTruth_8 : decode cX6_whyNotInTruth 8 = .ok (.ifCond .ne 5, 3) := by decide +kernel
theorem dX6_whyNotInTruth_11 : decode cX6_whyNotInTruth 11 = .ok (.iconst 1, 1) := by decide +kernel
theorem dX6_whyNotInTruth_12 : decode cX6_whyNotInTruth 12 = .ok (.ireturn, 1) := by decide +kernel
theorem dX6_whyNotInTruth_13 : decode cX6_whyNotInTruth 13 = .ok (.aload_n 0, 1) := by decide +kernel
theorem dX6_whyNotInTruth_14 : decode cX6_whyNotInTruth 14 = .ok (.getfield 18, 3) := by decide +kernel
theorem dX6_whyNotInTruth_17 : decode cX6_whyNotInTruth 17 = .ok (.getfield 141, 3) := by decide +kernel
theorem dX6_whyNotInTruth_20 : decode cX6_whyNotInTruth 20 = .ok (.iload_n 1, 1) := by decide +kernel
theorem dX6_whyNotInTruth_21 : decode cX6_whyNotInTruth 21 = .ok (.aaload, 1) := by decide +kernel
theorem dX6_whyNotInTruth_22 : decode cX6_whyNotInTruth 22 = .ok (.getfield 162, 3) := by decide +kernel
theorem dX6_whyNotInTruth_25 : decode cX6_whyNotInTruth 25 = .ok (.ifCond .le 17, 3) := by decide +kernel
theorem dX6_whyNotInTruth_28 : decode cX6_whyNotInTruth 28 = .ok (.iload_n 2, 1) := by decide +kernel
theorem dX6_whyNotInTruth_29 : decode cX6_whyNotInTruth 29 = .ok (.iload_n 3, 1) := by decide +kernel
theorem dX6_whyNotInTruth_30 : decode cX6_whyNotInTruth 30 = .ok (.iload 4, 2) := by decide +kernel
theorem dX6_whyNotInTruth_32 : decode cX6_whyNotInTruth 32 = .ok (.invokestatic 227, 3) := by decide +kernel
theorem dX6_whyNotInTruth_35 : decode cX6_whyNotInTruth 35 = .ok (.ifCond .eq 7, 3) := by decide +kernel
theorem dX6_whyNotInTruth_38 : decode cX6_whyNotInTruth 38 = .ok (.iconst 0, 1) := by decide +kernel
theorem dX6_whyNotInTruth_39 : decode cX6_whyNotInTruth 39 = .ok (.goto 5, 3) := by decide +kernel
theorem dX6_whyNotInTruth_42 : decode cX6_whyNotInTruth 42 = .ok (.bipush 6, 2) := by decide +kernel
theorem dX6_whyNotInTruth_44 : decode cX6_whyNotInTruth 44 = .ok (.ireturn, 1) := by decide +kernel
theorem dX6_whyNotBack_0 : decode cX6_whyNotBack 0 = .ok (.aload_n 0, 1) := by decide +kernel
theorem dX6_whyNotBack_1 : decode cX6_whyNotBack 1 = .ok (.getfield 18, 3) := by decide +kernel
theorem dX6_whyNotBack_4 : decode cX6_whyNotBack 4 = .ok (.iload_n 1, 1) := by decide +kernel
theorem dX6_whyNotBack_5 : decode cX6_whyNotBack 5 = .ok (.invokevirtual 123, 3) := by decide +kernel
theorem dX6_whyNotBack_8 : decode cX6_whyNotBack 8 = .ok (.ifCond .ne 5, 3) := by decide +kernel
theorem dX6_whyNotBack_11 : decode cX6_whyNotBack 11 = .ok (.iconst 1, 1) := by decide +kernel
theorem dX6_whyNotBack_12 : decode cX6_whyNotBack 12 = .ok (.ireturn, 1) := by decide +kernel
theorem dX6_whyNotBack_13 : decode cX6_whyNotBack 13 = .ok (.aload_n 0, 1) := by decide +kernel
theorem dX6_whyNotBack_14 : decode cX6_whyNotBack 14 = .ok (.iload_n 2, 1) := by decide +kernel
theorem dX6_whyNotBack_15 : decode cX6_whyNotBack 15 = .ok (.invokevirtual 95, 3) := by decide +kernel
theorem dX6_whyNotBack_18 : decode cX6_whyNotBack 18 = .ok (.istore_n 3, 1) := by decide +kernel
theorem dX6_whyNotBack_19 : decode cX6_whyNotBack 19 = .ok (.iload_n 3, 1) := by decide +kernel
theorem dX6_whyNotBack_20 : decode cX6_whyNotBack 20 = .ok (.ifCond .eq 5, 3) := by decide +kernel
theorem dX6_whyNotBack_23 : decode cX6_whyNotBack 23 = .ok (.iload_n 3, 1) := by decide +kernel
theorem dX6_whyNotBack_24 : decode cX6_whyNotBack 24 = .ok (.ireturn, 1) := by decide +kernel
theorem dX6_whyNotBack_25 : decode cX6_whyNotBack 25 = .ok (.aload_n 0, 1) := by decide +kernel
theorem dX6_whyNotBack_26 : decode cX6_whyNotBack 26 = .ok (.getfield 11, 3) := by decide +kernel
theorem dX6_whyNotBack_29 : decode cX6_whyNotBack 29 = .ok (.iload_n 2, 1) := by decide +kernel
theorem dX6_whyNotBack_30 : decode cX6_whyNotBack 30 = .ok (.aaload, 1) := by decide +kernel
theorem dX6_whyNotBack_31 : decode cX6_whyNotBack 31 = .ok (.getfield 351, 3) := by decide +kernel
theorem dX6_whyNotBack_34 : decode cX6_whyNotBack 34 = .ok (.aload_n 0, 1) := by decide +kernel
theorem dX6_whyNotBack_35 : decode cX6_whyNotBack 35 = .ok (.getfield 18, 3) := by decide +kernel
theorem dX6_whyNotBack_38 : decode cX6_whyNotBack 38 = .ok (.getfield 141, 3) := by decide +kernel
theorem dX6_whyNotBack_41 : decode cX6_whyNotBack 41 = .ok (.iload_n 1, 1) := by decide +kernel
theorem dX6_whyNotBack_42 : decode cX6_whyNotBack 42 = .ok (.aaload, 1) := by decide +kernel
theorem dX6_whyNotBack_43 : decode cX6_whyNotBack 43 = .ok (.getfield 162, 3) := by decide +kernel
theorem dX6_whyNotBack_46 : decode cX6_whyNotBack 46 = .ok (.if_icmp .ge 7, 3) := by decide +kernel
theorem dX6_whyNotBack_49 : decode cX6_whyNotBack 49 = .ok (.iconst 5, 1) := by decide +kernel
theorem dX6_whyNotBack_50 : decode cX6_whyNotBack 50 = .ok (.goto 4, 3) := by decide +kernel
theorem dX6_whyNotBack_53 : decode cX6_whyNotBack 53 = .ok (.iconst 0, 1) := by decide +kernel
theorem dX6_whyNotBack_54 : decode cX6_whyNotBack 54 = .ok (.ireturn, 1) := by decide +kernel
theorem dX6_dunkAndCarry_0 : decode cX6_dunkAndCarry 0 = .ok (.aload_n 0, 1) := by decide +kernel
theorem dX6_dunkAndCarry_1 : decode cX6_dunkAndCarry 1 = .ok (.getfield 31, 3) := by decide +kernel
theorem dX6_dunkAndCarry_4 : decode cX6_dunkAndCarry 4 = .ok (.aload_n 1, 1) := by decide +kernel
theorem dX6_dunkAndCarry_5 : decode cX6_dunkAndCarry 5 = .ok (.aload_n 0, 1) := by decide +kernel
theorem dX6_dunkAndCarry_6 : decode cX6_dunkAndCarry 6 = .ok (.getfield 18, 3) := by decide +kernel
theorem dX6_dunkAndCarry_9 : decode cX6_dunkAndCarry 9 = .ok (.getfield 181, 3) := by decide +kernel
theorem dX6_dunkAndCarry_12 : decode cX6_dunkAndCarry 12 = .ok (.invokevirtual 233, 3) := by decide +kernel
theorem dX6_dunkAndCarry_15 : decode cX6_dunkAndCarry 15 = .ok (.aload_n 0, 1) := by decide +kernel
theorem dX6_dunkAndCarry_16 : decode cX6_dunkAndCarry 16 = .ok (.getfield 31, 3) := by decide +kernel
theorem dX6_dunkAndCarry_19 : decode cX6_dunkAndCarry 19 = .ok (.iload_n 2, 1) := by decide +kernel
theorem dX6_dunkAndCarry_20 : decode cX6_dunkAndCarry 20 = .ok (.iload_n 3, 1) := by decide +kernel
theorem dX6_dunkAndCarry_21 : decode cX6_dunkAndCarry 21 = .ok (.invokevirtual 246, 3) := by decide +kernel
theorem dX6_dunkAndCarry_24 : decode cX6_dunkAndCarry 24 = .ok (.aload_n 0, 1) := by decide +kernel
theorem dX6_dunkAndCarry_25 : decode cX6_dunkAndCarry 25 = .ok (.getfield 31, 3) := by decide +kernel
theorem dX6_dunkAndCarry_28 : decode cX6_dunkAndCarry 28 = .ok (.iconst 0, 1) := by decide +kernel
theorem dX6_dunkAndCarry_29 : decode cX6_dunkAndCarry 29 = .ok (.iload 4, 2) := by decide +kernel
theorem dX6_dunkAndCarry_31 : decode cX6_dunkAndCarry 31 = .ok (.invokevirtual 246, 3) := by decide +kernel
theorem dX6_dunkAndCarry_34 : decode cX6_dunkAndCarry 34 = .ok (.return_, 1) := by decide +kernel
theorem dX6_saysAs_0 : decode cX6_saysAs 0 = .ok (.iload_n 2, 1) := by decide +kernel
theorem dX6_saysAs_1 : decode cX6_saysAs 1 = .ok (.tableswitch 70 1 6 #[39, 39, 52, 39, 57, 63], 39) := by decide +kernel
theorem dX6_saysAs_40 : decode cX6_saysAs 40 = .ok (.aload_n 1, 1) := by decide +kernel
theorem dX6_saysAs_41 : decode cX6_saysAs 41 = .ok (.iconst 0, 1) := by decide +kernel
theorem dX6_saysAs_42 : decode cX6_saysAs 42 = .ok (.aload_n 0, 1) := by decide +kernel
theorem dX6_saysAs_43 : decode cX6_saysAs 43 = .ok (.getfield 18, 3) := by decide +kernel
theorem dX6_saysAs_46 : decode cX6_saysAs 46 = .ok (.getfield 181, 3) := by decide +kernel
theorem dX6_saysAs_49 : decode cX6_saysAs 49 = .ok (.invokevirtual 204, 3) := by decide +kernel
theorem dX6_saysAs_52 : decode cX6_saysAs 52 = .ok (.ireturn, 1) := by decide +kernel
theorem dX6_saysAs_53 : decode cX6_saysAs 53 = .ok (.aload_n 1, 1) := by decide +kernel
theorem dX6_saysAs_54 : decode cX6_saysAs 54 = .ok (.getfield 165, 3) := by decide +kernel
theorem dX6_saysAs_57 : decode cX6_saysAs 57 = .ok (.ireturn, 1) := by decide +kernel
theorem dX6_saysAs_58 : decode cX6_saysAs 58 = .ok (.aload_n 1, 1) := by decide +kernel
theorem dX6_saysAs_59 : decode cX6_saysAs 59 = .ok (.iconst 0, 1) := by decide +kernel
theorem dX6_saysAs_60 : decode cX6_saysAs 60 = .ok (.invokevirtual 354, 3) := by decide +kernel
theorem dX6_saysAs_63 : decode cX6_saysAs 63 = .ok (.ireturn, 1) := by decide +kernel
theorem dX6_saysAs_64 : decode cX6_saysAs 64 = .ok (.aload_n 1, 1) := by decide +kernel
theorem dX6_saysAs_65 : decode cX6_saysAs 65 = .ok (.bipush 10, 2) := by decide +kernel
theorem dX6_saysAs_67 : decode cX6_saysAs 67 = .ok (.invokevirtual 354, 3) := by decide +kernel
theorem dX6_saysAs_70 : decode cX6_saysAs 70 = .ok (.ireturn, 1) := by decide +kernel
theorem dX6_saysAs_71 : decode cX6_saysAs 71 = .ok (.aload_n 1, 1) := by decide +kernel
theorem dX6_saysAs_72 : decode cX6_saysAs 72 = .ok (.getfield 162, 3) := by decide +kernel
theorem dX6_saysAs_75 : decode cX6_saysAs 75 = .ok (.ireturn, 1) := by decide +kernel
theorem dX6_bestDip_0 : decode cX6_bestDip 0 = .ok (.iconst (-1), 1) := by decide +kernel
theorem dX6_bestDip_1 : decode cX6_bestDip 1 = .ok (.istore_n 3, 1) := by decide +kernel
theorem dX6_bestDip_2 : decode cX6_bestDip 2 = .ok (.iconst 0, 1) := by decide +kernel
theorem dX6_bestDip_3 : decode cX6_bestDip 3 = .ok (.istore 4, 2) := by decide +kernel
theorem dX6_bestDip_5 : decode cX6_bestDip 5 = .ok (.iconst 0, 1) := by decide +kernel
theorem dX6_bestDip_6 : decode cX6_bestDip 6 = .ok (.istore 5, 2) := by decide +kernel
theorem dX6_bestDip_8 : decode cX6_bestDip 8 = .ok (.iload 5, 2) := by decide +kernel
theorem dX6_bestDip_10 : decode cX6_bestDip 10 = .ok (.aload_n 1, 1) := by decide +kernel
theorem dX6_bestDip_11 : decode cX6_bestDip 11 = .ok (.getfield 162, 3) := by decide +kernel
theorem dX6_bestDip_14 : decode cX6_bestDip 14 = .ok (.if_icmp .gt 121, 3) := by decide +kernel
theorem dX6_bestDip_17 : decode cX6_bestDip 17 = .ok (.aload_n 0, 1) := by decide +kernel
theorem dX6_bestDip_18 : decode cX6_bestDip 18 = .ok (.getfield 31, 3) := by decide +kernel
theorem dX6_bestDip_21 : decode cX6_bestDip 21 = .ok (.aload_n 1, 1) := by decide +kernel
theorem dX6_bestDip_22 : decode cX6_bestDip 22 = .ok (.aload_n 0, 1) := by decide +kernel
theorem dX6_bestDip_23 : decode cX6_bestDip 23 = .ok (.getfield 18, 3) := by decide +kernel
theorem dX6_bestDip_26 : decode cX6_bestDip 26 = .ok (.getfield 181, 3) := by decide +kernel
theorem dX6_bestDip_29 : decode cX6_bestDip 29 = .ok (.invokevirtual 233, 3) := by decide +kernel
theorem dX6_bestDip_32 : decode cX6_bestDip 32 = .ok (.aload_n 0, 1) := by decide +kernel
theorem dX6_bestDip_33 : decode cX6_bestDip 33 = .ok (.getfield 31, 3) := by decide +kernel
theorem dX6_bestDip_36 : decode cX6_bestDip 36 = .ok (.iload 5, 2) := by decide +kernel
theorem dX6_bestDip_38 : decode cX6_bestDip 38 = .ok (.invokevirtual 237, 3) := by decide +kernel
theorem dX6_bestDip_41 : decode cX6_bestDip 41 = .ok (.iconst 1, 1) := by decide +kernel
theorem dX6_bestDip_42 : decode cX6_bestDip 42 = .ok (.istore 6, 2) := by decide +kernel
theorem dX6_bestDip_44 : decode cX6_bestDip 44 = .ok (.iconst 0, 1) := by decide +kernel
theorem dX6_bestDip_45 : decode cX6_bestDip 45 = .ok (.istore 7, 2) := by decide +kernel
theorem dX6_bestDip_47 : decode cX6_bestDip 47 = .ok (.iload 7, 2) := by decide +kernel
theorem dX6_bestDip_49 : decode cX6_bestDip 49 = .ok (.bipush 30, 2) := by decide +kernel
theorem dX6_bestDip_51 : decode cX6_bestDip 51 = .ok (.if_icmp .gt 78, 3) := by decide +kernel
theorem dX6_bestDip_54 : decode cX6_bestDip 54 = .ok (.iload 6, 2) := by decide +kernel
theorem dX6_bestDip_56 : decode cX6_bestDip 56 = .ok (.ifCond .eq 73, 3) := by decide +kernel
theorem dX6_bestDip_59 : decode cX6_bestDip 59 = .ok (.aload_n 0, 1) := by decide +kernel
theorem dX6_bestDip_60 : decode cX6_bestDip 60 = .ok (.getfield 35, 3) := by decide +kernel
theorem dX6_bestDip_63 : decode cX6_bestDip 63 = .ok (.aload_n 0, 1) := by decide +kernel
theorem dX6_bestDip_64 : decode cX6_bestDip 64 = .ok (.getfield 31, 3) := by decide +kernel
theorem dX6_bestDip_67 : decode cX6_bestDip 67 = .ok (.invokevirtual 243, 3) := by decide +kernel
theorem dX6_bestDip_70 : decode cX6_bestDip 70 = .ok (.aload_n 0, 1) := by decide +kernel
theorem dX6_bestDip_71 : decode cX6_bestDip 71 = .ok (.getfield 35, 3) := by decide +kernel
theorem dX6_bestDip_74 : decode cX6_bestDip 74 = .ok (.iconst 0, 1) := by decide +kernel
theorem dX6_bestDip_75 : decode cX6_bestDip 75 = .ok (.iload_n 2, 1) := by decide +kernel
theorem dX6_bestDip_76 : decode cX6_bestDip 76 = .ok (.invokevirtual 246, 3) := by decide +kernel
theorem dX6_bestDip_79 : decode cX6_bestDip 79 = .ok (.aload_n 0, 1) := by decide +kernel
theorem dX6_bestDip_80 : decode cX6_bestDip 80 = .ok (.getfield 18, 3) := by decide +kernel
theorem dX6_bestDip_83 : decode cX6_bestDip 83 = .ok (.aload_n 0, 1) := by decide +kernel
theorem dX6_bestDip_84 : decode cX6_bestDip 84 = .ok (.getfield 35, 3) := by decide +kernel
theorem dX6_bestDip_87 : decode cX6_bestDip 87 = .ok (.getfield 225, 3) := by decide +kernel
theorem dX6_bestDip_90 : decode cX6_bestDip 90 = .ok (.invokevirtual 252, 3) := by decide +kernel
theorem dX6_bestDip_93 : decode cX6_bestDip 93 = .ok (.istore 8, 2) := by decide +kernel
theorem dX6_bestDip_95 : decode cX6_bestDip 95 = .ok (.iload 8, 2) := by decide +kernel
theorem dX6_bestDip_97 : decode cX6_bestDip 97 = .ok (.iload_n 3, 1) := by decide +kernel
theorem dX6_bestDip_98 : decode cX6_bestDip 98 = .ok (.if_icmp .le 16, 3) := by decide +kernel
theorem dX6_bestDip_101 : decode cX6_bestDip 101 = .ok (.iload 8, 2) := by decide +kernel
theorem dX6_bestDip_103 : decode cX6_bestDip 103 = .ok (.istore_n 3, 1) := by decide +kernel
theorem dX6_bestDip_104 : decode cX6_bestDip 104 = .ok (.bipush 100, 2) := by decide +kernel
theorem dX6_bestDip_106 : decode cX6_bestDip 106 = .ok (.iload 5, 2) := by decide +kernel
theorem dX6_bestDip_108 : decode cX6_bestDip 108 = .ok (.imul, 1) := by decide +kernel
theorem dX6_bestDip_109 : decode cX6_bestDip 109 = .ok (.iload 7, 2) := by decide +kernel
theorem dX6_bestDip_111 : decode cX6_bestDip 111 = .ok (.iadd, 1) := by decide +kernel
theorem dX6_bestDip_112 : decode cX6_bestDip 112 = .ok (.istore 4, 2) := by decide +kernel
theorem dX6_bestDip_114 : decode cX6_bestDip 114 = .ok (.aload_n 0, 1) := by decide +kernel
theorem dX6_bestDip_115 : decode cX6_bestDip 115 = .ok (.getfield 31, 3) := by decide +kernel
theorem dX6_bestDip_118 : decode cX6_bestDip 118 = .ok (.invokevirtual 240, 3) := by decide +kernel
theorem dX6_bestDip_121 : decode cX6_bestDip 121 = .ok (.istore 6, 2) := by decide +kernel
theorem dX6_bestDip_123 : decode cX6_bestDip 123 = .ok (.iinc 7 1, 3) := by decide +kernel
theorem dX6_bestDip_126 : decode cX6_bestDip 126 = .ok (.goto (-79), 3) := by decide +kernel
theorem dX6_bestDip_129 : decode cX6_bestDip 129 = .ok (.iinc 5 1, 3) := by decide +kernel
theorem dX6_bestDip_132 : decode cX6_bestDip 132 = .ok (.goto (-124), 3) := by decide +kernel
theorem dX6_bestDip_135 : decode cX6_bestDip 135 = .ok (.iload 4, 2) := by decide +kernel
theorem dX6_bestDip_137 : decode cX6_bestDip 137 = .ok (.ireturn, 1) := by decide +kernel
theorem dX6_isAsWetAs_0 : decode cX6_isAsWetAs 0 = .ok (.iconst 0, 1) := by decide +kernel
theorem dX6_isAsWetAs_1 : decode cX6_isAsWetAs 1 = .ok (.istore_n 2, 1) := by decide +kernel
theorem dX6_isAsWetAs_2 : decode cX6_isAsWetAs 2 = .ok (.iload_n 2, 1) := by decide +kernel
theorem dX6_isAsWetAs_3 : decode cX6_isAsWetAs 3 = .ok (.aload_n 0, 1) := by decide +kernel
theorem dX6_isAsWetAs_4 : decode cX6_isAsWetAs 4 = .ok (.getfield 162, 3) := by decide +kernel
theorem dX6_isAsWetAs_7 : decode cX6_isAsWetAs 7 = .ok (.if_icmp .ge 26, 3) := by decide +kernel
theorem dX6_isAsWetAs_10 : decode cX6_isAsWetAs 10 = .ok (.aload_n 1, 1) := by decide +kernel
theorem dX6_isAsWetAs_11 : decode cX6_isAsWetAs 11 = .ok (.iload_n 2, 1) := by decide +kernel
theorem dX6_isAsWetAs_12 : decode cX6_isAsWetAs 12 = .ok (.invokevirtual 119, 3) := by decide +kernel
theorem dX6_isAsWetAs_15 : decode cX6_isAsWetAs 15 = .ok (.l2i, 1) := by decide +kernel
theorem dX6_isAsWetAs_16 : decode cX6_isAsWetAs 16 = .ok (.aload_n 0, 1) := by decide +kernel
theorem dX6_isAsWetAs_17 : decode cX6_isAsWetAs 17 = .ok (.getfield 174, 3) := by decide +kernel
theorem dX6_isAsWetAs_20 : decode cX6_isAsWetAs 20 = .ok (.iload_n 2, 1) := by decide +kernel
theorem dX6_isAsWetAs_21 : decode cX6_isAsWetAs 21 = .ok (.iaload, 1) := by decide +kernel
theorem dX6_isAsWetAs_22 : decode cX6_isAsWetAs 22 = .ok (.if_icmp .eq 5, 3) := by decide +kernel
theorem dX6_isAsWetAs_25 : decode cX6_isAsWetAs 25 = .ok (.iconst 0, 1) := by decide +kernel
theorem dX6_isAsWetAs_26 : decode cX6_isAsWetAs 26 = .ok (.ireturn, 1) := by decide +kernel
theorem dX6_isAsWetAs_27 : decode cX6_isAsWetAs 27 = .ok (.iinc 2 1, 3) := by decide +kernel
theorem dX6_isAsWetAs_30 : decode cX6_isAsWetAs 30 = .ok (.goto (-28), 3) := by decide +kernel
theorem dX6_isAsWetAs_33 : decode cX6_isAsWetAs 33 = .ok (.iconst 1, 1) := by decide +kernel
theorem dX6_isAsWetAs_34 : decode cX6_isAsWetAs 34 = .ok (.ireturn, 1) := by decide +kernel
theorem dX6_fillPlateWorths_0 : decode cX6_fillPlateWorths 0 = .ok (.iconst 0, 1) := by decide +kernel
theorem dX6_fillPlateWorths_1 : decode cX6_fillPlateWorths 1 = .ok (.istore 4, 2) := by decide +kernel
theorem dX6_fillPlateWorths_3 : decode cX6_fillPlateWorths 3 = .ok (.iload 4, 2) := by decide +kernel
theorem dX6_fillPlateWorths_5 : decode cX6_fillPlateWorths 5 = .ok (.aload_n 0, 1) := by decide +kernel
theorem dX6_fillPlateWorths_6 : decode cX6_fillPlateWorths 6 = .ok (.getfield 18, 3) := by decide +kernel
theorem dX6_fillPlateWorths_9 : decode cX6_fillPlateWorths 9 = .ok (.getfield 268, 3) := by decide +kernel
theorem dX6_fillPlateWorths_12 : decode cX6_fillPlateWorths 12 = .ok (.if_icmp .ge 108, 3) := by decide +kernel
theorem dX6_fillPlateWorths_15 : decode cX6_fillPlateWorths 15 = .ok (.aload_n 0, 1) := by decide +kernel
theorem dX6_fillPlateWorths_16 : decode cX6_fillPlateWorths 16 = .ok (.getfield 18, 3) := by decide +kernel
theorem dX6_fillPlateWorths_19 : decode cX6_fillPlateWorths 19 = .ok (.iload 4, 2) := by decide +kernel
theorem dX6_fillPlateWorths_21 : decode cX6_fillPlateWorths 21 = .ok (.iload_n 2, 1) := by decide +kernel
theorem dX6_fillPlateWorths_22 : decode cX6_fillPlateWorths 22 = .ok (.iload_n 3, 1) := by decide +kernel
theorem dX6_fillPlateWorths_23 : decode cX6_fillPlateWorths 23 = .ok (.iadd, 1) := by decide +kernel
theorem dX6_fillPlateWorths_24 : decode cX6_fillPlateWorths 24 = .ok (.imul, 1) := by decide +kernel
theorem dX6_fillPlateWorths_25 : decode cX6_fillPlateWorths 25 = .ok (.invokevirtual 357, 3) := by decide +kernel
theorem dX6_fillPlateWorths_28 : decode cX6_fillPlateWorths 28 = .ok (.istore 5, 2) := by decide +kernel
theorem dX6_fillPlateWorths_30 : decode cX6_fillPlateWorths 30 = .ok (.iconst 0, 1) := by decide +kernel
theorem dX6_fillPlateWorths_31 : decode cX6_fillPlateWorths 31 = .ok (.istore 6, 2) := by decide +kernel
theorem dX6_fillPlateWorths_33 : decode cX6_fillPlateWorths 33 = .ok (.iload 6, 2) := by decide +kernel
theorem dX6_fillPlateWorths_35 : decode cX6_fillPlateWorths 35 = .ok (.aload_n 0, 1) := by decide +kernel
theorem dX6_fillPlateWorths_36 : decode cX6_fillPlateWorths 36 = .ok (.getfield 18, 3) := by decide +kernel
theorem dX6_fillPlateWorths_39 : decode cX6_fillPlateWorths 39 = .ok (.getfield 268, 3) := by decide +kernel
theorem dX6_fillPlateWorths_42 : decode cX6_fillPlateWorths 42 = .ok (.if_icmp .ge 72, 3) := by decide +kernel
theorem dX6_fillPlateWorths_45 : decode cX6_fillPlateWorths 45 = .ok (.aload_n 0, 1) := by decide +kernel
theorem dX6_fillPlateWorths_46 : decode cX6_fillPlateWorths 46 = .ok (.getfield 31, 3) := by decide +kernel
theorem dX6_fillPlateWorths_49 : decode cX6_fillPlateWorths 49 = .ok (.aload_n 0, 1) := by decide +kernel
theorem dX6_fillPlateWorths_50 : decode cX6_fillPlateWorths 50 = .ok (.getfield 18, 3) := by decide +kernel
theorem dX6_fillPlateWorths_53 : decode cX6_fillPlateWorths 53 = .ok (.getfield 141, 3) := by decide +kernel
theorem dX6_fillPlateWorths_56 : decode cX6_fillPlateWorths 56 = .ok (.iload 6, 2) := by decide +kernel
theorem dX6_fillPlateWorths_58 : decode cX6_fillPlateWorths 58 = .ok (.aaload, 1) := by decide +kernel
theorem dX6_fillPlateWorths_59 : decode cX6_fillPlateWorths 59 = .ok (.iload 5, 2) := by decide +kernel
theorem dX6_fillPlateWorths_61 : decode cX6_fillPlateWorths 61 = .ok (.invokevirtual 233, 3) := by decide +kernel
theorem dX6_fillPlateWorths_64 : decode cX6_fillPlateWorths 64 = .ok (.aload_n 0, 1) := by decide +kernel
theorem dX6_fillPlateWorths_65 : decode cX6_fillPlateWorths 65 = .ok (.getfield 31, 3) := by decide +kernel
theorem dX6_fillPlateWorths_68 : decode cX6_fillPlateWorths 68 = .ok (.iload_n 1, 1) := by decide +kernel
theorem dX6_fillPlateWorths_69 : decode cX6_fillPlateWorths 69 = .ok (.iload_n 2, 1) := by decide +kernel
theorem dX6_fillPlateWorths_70 : decode cX6_fillPlateWorths 70 = .ok (.invokevirtual 246, 3) := by decide +kernel
theorem dX6_fillPlateWorths_73 : decode cX6_fillPlateWorths 73 = .ok (.aload_n 0, 1) := by decide +kernel
theorem dX6_fillPlateWorths_74 : decode cX6_fillPlateWorths 74 = .ok (.getfield 31, 3) := by decide +kernel
theorem dX6_fillPlateWorths_77 : decode cX6_fillPlateWorths 77 = .ok (.iconst 0, 1) := by decide +kernel
theorem dX6_fillPlateWorths_78 : decode cX6_fillPlateWorths 78 = .ok (.iload_n 3, 1) := by decide +kernel
theorem dX6_fillPlateWorths_79 : decode cX6_fillPlateWorths 79 = .ok (.invokevirtual 246, 3) := by decide +kernel
theorem dX6_fillPlateWorths_82 : decode cX6_fillPlateWorths 82 = .ok (.aload_n 0, 1) := by decide +kernel
theorem dX6_fillPlateWorths_83 : decode cX6_fillPlateWorths 83 = .ok (.getfield 65, 3) := by decide +kernel
theorem dX6_fillPlateWorths_86 : decode cX6_fillPlateWorths 86 = .ok (.iload 6, 2) := by decide +kernel
theorem dX6_fillPlateWorths_88 : decode cX6_fillPlateWorths 88 = .ok (.iconst 5, 1) := by decide +kernel
theorem dX6_fillPlateWorths_89 : decode cX6_fillPlateWorths 89 = .ok (.imul, 1) := by decide +kernel
theorem dX6_fillPlateWorths_90 : decode cX6_fillPlateWorths 90 = .ok (.iload 4, 2) := by decide +kernel
theorem dX6_fillPlateWorths_92 : decode cX6_fillPlateWorths 92 = .ok (.iadd, 1) := by decide +kernel
theorem dX6_fillPlateWorths_93 : decode cX6_fillPlateWorths 93 = .ok (.aload_n 0, 1) := by decide +kernel
theorem dX6_fillPlateWorths_94 : decode cX6_fillPlateWorths 94 = .ok (.getfield 18, 3) := by decide +kernel
theorem dX6_fillPlateWorths_97 : decode cX6_fillPlateWorths 97 = .ok (.aload_n 0, 1) := by decide +kernel
theorem dX6_fillPlateWorths_98 : decode cX6_fillPlateWorths 98 = .ok (.getfield 31, 3) := by decide +kernel
theorem dX6_fillPlateWorths_101 : decode cX6_fillPlateWorths 101 = .ok (.getfield 225, 3) := by decide +kernel
theorem dX6_fillPlateWorths_104 : decode cX6_fillPlateWorths 104 = .ok (.invokevirtual 252, 3) := by decide +kernel
theorem dX6_fillPlateWorths_107 : decode cX6_fillPlateWorths 107 = .ok (.iastore, 1) := by decide +kernel
theorem dX6_fillPlateWorths_108 : decode cX6_fillPlateWorths 108 = .ok (.iinc 6 1, 3) := by decide +kernel
theorem dX6_fillPlateWorths_111 : decode cX6_fillPlateWorths 111 = .ok (.goto (-78), 3) := by decide +kernel
theorem dX6_fillPlateWorths_114 : decode cX6_fillPlateWorths 114 = .ok (.iinc 4 1, 3) := by decide +kernel
theorem dX6_fillPlateWorths_117 : decode cX6_fillPlateWorths 117 = .ok (.goto (-114), 3) := by decide +kernel
theorem dX6_fillPlateWorths_120 : decode cX6_fillPlateWorths 120 = .ok (.return_, 1) := by decide +kernel
theorem dX6_findBestOrder_0 : decode cX6_findBestOrder 0 = .ok (.aload_n 0, 1) := by decide +kernel
theorem dX6_findBestOrder_1 : decode cX6_findBestOrder 1 = .ok (.getfield 18, 3) := by decide +kernel
theorem dX6_findBestOrder_4 : decode cX6_findBestOrder 4 = .ok (.getfield 268, 3) := by decide +kernel
theorem dX6_findBestOrder_7 : decode cX6_findBestOrder 7 = .ok (.istore_n 1, 1) := by decide +kernel
theorem dX6_findBestOrder_8 : decode cX6_findBestOrder 8 = .ok (.iconst 0, 1) := by decide +kernel
theorem dX6_findBestOrder_9 : decode cX6_findBestOrder 9 = .ok (.istore_n 2, 1) := by decide +kernel
theorem dX6_findBestOrder_10 : decode cX6_findBestOrder 10 = .ok (.iload_n 2, 1) := by decide +kernel
theorem dX6_findBestOrder_11 : decode cX6_findBestOrder 11 = .ok (.iload_n 1, 1) := by decide +kernel
theorem dX6_findBestOrder_12 : decode cX6_findBestOrder 12 = .ok (.if_icmp .ge 16, 3) := by decide +kernel
theorem dX6_findBestOrder_15 : decode cX6_findBestOrder 15 = .ok (.aload_n 0, 1) := by decide +kernel
theorem dX6_findBestOrder_16 : decode cX6_findBestOrder 16 = .ok (.getfield 68, 3) := by decide +kernel
theorem dX6_findBestOrder_19 : decode cX6_findBestOrder 19 = .ok (.iload_n 2, 1) := by decide +kernel
theorem dX6_findBestOrder_20 : decode cX6_findBestOrder 20 = .ok (.iload_n 2, 1) := by decide +kernel
theorem dX6_findBestOrder_21 : decode cX6_findBestOrder 21 = .ok (.iastore, 1) := by decide +kernel
theorem dX6_findBestOrder_22 : decode cX6_findBestOrder 22 = .ok (.iinc 2 1, 3) := by decide +kernel
theorem dX6_findBestOrder_25 : decode cX6_findBestOrder 25 = .ok (.goto (-15), 3) := by decide +kernel
theorem dX6_findBestOrder_28 : decode cX6_findBestOrder 28 = .ok (.iconst (-1), 1) := by decide +kernel
theorem dX6_findBestOrder_29 : decode cX6_findBestOrder 29 = .ok (.istore_n 2, 1) := by decide +kernel
theorem dX6_findBestOrder_30 : decode cX6_findBestOrder 30 = .ok (.iconst 1, 1) := by decide +kernel
theorem dX6_findBestOrder_31 : decode cX6_findBestOrder 31 = .ok (.istore_n 3, 1) := by decide +kernel
theorem dX6_findBestOrder_32 : decode cX6_findBestOrder 32 = .ok (.iconst 0, 1) := by decide +kernel
theorem dX6_findBestOrder_33 : decode cX6_findBestOrder 33 = .ok (.istore 4, 2) := by decide +kernel
theorem dX6_findBestOrder_35 : decode cX6_findBestOrder 35 = .ok (.iload 4, 2) := by decide +kernel
theorem dX6_findBestOrder_37 : decode cX6_findBestOrder 37 = .ok (.bipush 120, 2) := by decide +kernel
theorem dX6_findBestOrder_39 : decode cX6_findBestOrder 39 = .ok (.if_icmp .ge 82, 3) := by decide +kernel
theorem dX6_findBestOrder_42 : decode cX6_findBestOrder 42 = .ok (.iload_n 3, 1) := by decide +kernel
theorem dX6_findBestOrder_43 : decode cX6_findBestOrder 43 = .ok (.ifCond .eq 78, 3) := by decide +kernel
theorem dX6_findBestOrder_46 : decode cX6_findBestOrder 46 = .ok (.iconst 0, 1) := by decide +kernel
theorem dX6_findBestOrder_47 : decode cX6_findBestOrder 47 = .ok (.istore 5, 2) := by decide +kernel
theorem dX6_findBestOrder_49 : decode cX6_findBestOrder 49 = .ok (.iconst 0, 1) := by decide +kernel
theorem dX6_findBestOrder_50 : decode cX6_findBestOrder 50 = .ok (.istore 6, 2) := by decide +kernel
theorem dX6_findBestOrder_52 : decode cX6_findBestOrder 52 = .ok (.iload 6, 2) := by decide +kernel
theorem dX6_findBestOrder_54 : decode cX6_findBestOrder 54 = .ok (.iload_n 1, 1) := by decide +kernel
theorem dX6_findBestOrder_55 : decode cX6_findBestOrder 55 = .ok (.if_icmp .ge 31, 3) := by decide +kernel
theorem dX6_findBestOrder_58 : decode cX6_findBestOrder 58 = .ok (.iload 5, 2) := by decide +kernel
theorem dX6_findBestOrder_60 : decode cX6_findBestOrder 60 = .ok (.aload_n 0, 1) := by decide +kernel
theorem dX6_findBestOrder_61 : decode cX6_findBestOrder 61 = .ok (.getfield 65, 3) := by decide +kernel
theorem dX6_findBestOrder_64 : decode cX6_findBestOrder 64 = .ok (.aload_n 0, 1) := by decide +kernel
theorem dX6_findBestOrder_65 : decode cX6_findBestOrder 65 = .ok (.getfield 68, 3) := by decide +kernel
theorem dX6_findBestOrder_68 : decode cX6_findBestOrder 68 = .ok (.iload 6, 2) := by decide +kernel
theorem dX6_findBestOrder_70 : decode cX6_findBestOrder 70 = .ok (.iaload, 1) := by decide +kernel
theorem dX6_findBestOrder_71 : decode cX6_findBestOrder 71 = .ok (.iconst 5, 1) := by decide +kernel
theorem dX6_findBestOrder_72 : decode cX6_findBestOrder 72 = .ok (.imul, 1) := by decide +kernel
theorem dX6_findBestOrder_73 : decode cX6_findBestOrder 73 = .ok (.iload 6, 2) := by decide +kernel
theorem dX6_findBestOrder_75 : decode cX6_findBestOrder 75 = .ok (.iadd, 1) := by decide +kernel
theorem dX6_findBestOrder_76 : decode cX6_findBestOrder 76 = .ok (.iaload, 1) := by decide +kernel
theorem dX6_findBestOrder_77 : decode cX6_findBestOrder 77 = .ok (.iadd, 1) := by decide +kernel
theorem dX6_findBestOrder_78 : decode cX6_findBestOrder 78 = .ok (.istore 5, 2) := by decide +kernel
theorem dX6_findBestOrder_80 : decode cX6_findBestOrder 80 = .ok (.iinc 6 1, 3) := by decide +kernel
theorem dX6_findBestOrder_83 : decode cX6_findBestOrder 83 = .ok (.goto (-31), 3) := by decide +kernel
theorem dX6_findBestOrder_86 : decode cX6_findBestOrder 86 = .ok (.iload 5, 2) := by decide +kernel
theorem dX6_findBestOrder_88 : decode cX6_findBestOrder 88 = .ok (.iload_n 2, 1) := by decide +kernel
theorem dX6_findBestOrder_89 : decode cX6_findBestOrder 89 = .ok (.if_icmp .le 20, 3) := by decide +kernel
theorem dX6_findBestOrder_92 : decode cX6_findBestOrder 92 = .ok (.iload 5, 2) := by decide +kernel
theorem dX6_findBestOrder_94 : decode cX6_findBestOrder 94 = .ok (.istore_n 2, 1) := by decide +kernel
theorem dX6_findBestOrder_95 : decode cX6_findBestOrder 95 = .ok (.aload_n 0, 1) := by decide +kernel
theorem dX6_findBestOrder_96 : decode cX6_findBestOrder 96 = .ok (.getfield 68, 3) := by decide +kernel
theorem dX6_findBestOrder_99 : decode cX6_findBestOrder 99 = .ok (.iconst 0, 1) := by decide +kernel
theorem dX6_findBestOrder_100 : decode cX6_findBestOrder 100 = .ok (.aload_n 0, 1) := by decide +kernel
theorem dX6_findBestOrder_101 : decode cX6_findBestOrder 101 = .ok (.getfield 71, 3) := by decide +kernel
theorem dX6_findBestOrder_104 : decode cX6_findBestOrder 104 = .ok (.iconst 0, 1) := by decide +kernel
theorem dX6_findBestOrder_105 : decode cX6_findBestOrder 105 = .ok (.iload_n 1, 1) := by decide +kernel
theorem dX6_findBestOrder_106 : decode cX6_findBestOrder 106 = .ok (.invokestatic 113, 3) := by decide +kernel
theorem dX6_findBestOrder_109 : decode cX6_findBestOrder 109 = .ok (.aload_n 0, 1) := by decide +kernel
theorem dX6_findBestOrder_110 : decode cX6_findBestOrder 110 = .ok (.iload_n 1, 1) := by decide +kernel
theorem dX6_findBestOrder_111 : decode cX6_findBestOrder 111 = .ok (.invokevirtual 360, 3) := by decide +kernel
theorem dX6_findBestOrder_114 : decode cX6_findBestOrder 114 = .ok (.istore_n 3, 1) := by decide +kernel
theorem dX6_findBestOrder_115 : decode cX6_findBestOrder 115 = .ok (.iinc 4 1, 3) := by decide +kernel
theorem dX6_findBestOrder_118 : decode cX6_findBestOrder 118 = .ok (.goto (-83), 3) := by decide +kernel
theorem dX6_findBestOrder_121 : decode cX6_findBestOrder 121 = .ok (.iload_n 2, 1) := by decide +kernel
theorem dX6_findBestOrder_122 : decode cX6_findBestOrder 122 = .ok (.ireturn, 1) := by decide +kernel
theorem dX6_toNextOrder_0 : decode cX6_toNextOrder 0 = .ok (.iload_n 1, 1) := by decide +kernel
theorem dX6_toNextOrder_1 : decode cX6_toNextOrder 1 = .ok (.iconst 2, 1) := by decide +kernel
theorem dX6_toNextOrder_2 : decode cX6_toNextOrder 2 = .ok (.isub, 1) := by decide +kernel
theorem dX6_toNextOrder_3 : decode cX6_toNextOrder 3 = .ok (.istore_n 2, 1) := by decide +kernel
theorem dX6_toNextOrder_4 : decode cX6_toNextOrder 4 = .ok (.iload_n 2, 1) := by decide +kernel
theorem dX6_toNextOrder_5 : decode cX6_toNextOrder 5 = .ok (.ifCond .lt 26, 3) := by decide +kernel
theorem dX6_toNextOrder_8 : decode cX6_toNextOrder 8 = .ok (.aload_n 0, 1) := by decide +kernel
theorem dX6_toNextOrder_9 : decode cX6_toNextOrder 9 = .ok (.getfield 68, 3) := by decide +kernel
theorem dX6_toNextOrder_12 : decode cX6_toNextOrder 12 = .ok (.iload_n 2, 1) := by decide +kernel
theorem dX6_toNextOrder_13 : decode cX6_toNextOrder 13 = .ok (.iaload, 1) := by decide +kernel
theorem dX6_toNextOrder_14 : decode cX6_toNextOrder 14 = .ok (.aload_n 0, 1) := by decide +kernel
theorem dX6_toNextOrder_15 : decode cX6_toNextOrder 15 = .ok (.getfield 68, 3) := by decide +kernel
theorem dX6_toNextOrder_18 : decode cX6_toNextOrder 18 = .ok (.iload_n 2, 1) := by decide +kernel
theorem dX6_toNextOrder_19 : decode cX6_toNextOrder 19 = .ok (.iconst 1, 1) := by decide +kernel
theorem dX6_toNextOrder_20 : decode cX6_toNextOrder 20 = .ok (.iadd, 1) := by decide +kernel
theorem dX6_toNextOrder_21 : decode cX6_toNextOrder 21 = .ok (.iaload, 1) := by decide +kernel
theorem dX6_toNextOrder_22 : decode cX6_toNextOrder 22 = .ok (.if_icmp .le 9, 3) := by decide +kernel
theorem dX6_toNextOrder_25 : decode cX6_toNextOrder 25 = .ok (.iinc 2 (-1), 3) := by decide +kernel
theorem dX6_toNextOrder_28 : decode cX6_toNextOrder 28 = .ok (.goto (-24), 3) := by decide +kernel
theorem dX6_toNextOrder_31 : decode cX6_toNextOrder 31 = .ok (.iload_n 2, 1) := by decide +kernel
theorem dX6_toNextOrder_32 : decode cX6_toNextOrder 32 = .ok (.ifCond .ge 5, 3) := by decide +kernel
theorem dX6_toNextOrder_35 : decode cX6_toNextOrder 35 = .ok (.iconst 0, 1) := by decide +kernel
theorem dX6_toNextOrder_36 : decode cX6_toNextOrder 36 = .ok (.ireturn, 1) := by decide +kernel
theorem dX6_toNextOrder_37 : decode cX6_toNextOrder 37 = .ok (.iload_n 1, 1) := by decide +kernel
theorem dX6_toNextOrder_38 : decode cX6_toNextOrder 38 = .ok (.iconst 1, 1) := by decide +kernel
theorem dX6_toNextOrder_39 : decode cX6_toNextOrder 39 = .ok (.isub, 1) := by decide +kernel
theorem dX6_toNextOrder_40 : decode cX6_toNextOrder 40 = .ok (.istore_n 3, 1) := by decide +kernel
theorem dX6_toNextOrder_41 : decode cX6_toNextOrder 41 = .ok (.iload_n 3, 1) := by decide +kernel
theorem dX6_toNextOrder_42 : decode cX6_toNextOrder 42 = .ok (.iload_n 2, 1) := by decide +kernel
theorem dX6_toNextOrder_43 : decode cX6_toNextOrder 43 = .ok (.iconst 1, 1) := by decide +kernel
theorem dX6_toNextOrder_44 : decode cX6_toNextOrder 44 = .ok (.iadd, 1) := by decide +kernel
theorem dX6_toNextOrder_45 : decode cX6_toNextOrder 45 = .ok (.if_icmp .le 24, 3) := by decide +kernel
theorem dX6_toNextOrder_48 : decode cX6_toNextOrder 48 = .ok (.aload_n 0, 1) := by decide +kernel
theorem dX6_toNextOrder_49 : decode cX6_toNextOrder 49 = .ok (.getfield 68, 3) := by decide +kernel
theorem dX6_toNextOrder_52 : decode cX6_toNextOrder 52 = .ok (.iload_n 3, 1) := by decide +kernel
theorem dX6_toNextOrder_53 : decode cX6_toNextOrder 53 = .ok (.iaload, 1) := by decide +kernel
theorem dX6_toNextOrder_54 : decode cX6_toNextOrder 54 = .ok (.aload_n 0, 1) := by decide +kernel
theorem dX6_toNextOrder_55 : decode cX6_toNextOrder 55 = .ok (.getfield 68, 3) := by decide +kernel
theorem dX6_toNextOrder_58 : decode cX6_toNextOrder 58 = .ok (.iload_n 2, 1) := by decide +kernel
theorem dX6_toNextOrder_59 : decode cX6_toNextOrder 59 = .ok (.iaload, 1) := by decide +kernel
theorem dX6_toNextOrder_60 : decode cX6_toNextOrder 60 = .ok (.if_icmp .ge 9, 3) := by decide +kernel
theorem dX6_toNextOrder_63 : decode cX6_toNextOrder 63 = .ok (.iinc 3 (-1), 3) := by decide +kernel
theorem dX6_toNextOrder_66 : decode cX6_toNextOrder 66 = .ok (.goto (-25), 3) := by decide +kernel
theorem dX6_toNextOrder_69 : decode cX6_toNextOrder 69 = .ok (.aload_n 0, 1) := by decide +kernel
theorem dX6_toNextOrder_70 : decode cX6_toNextOrder 70 = .ok (.iload_n 2, 1) := by decide +kernel
theorem dX6_toNextOrder_71 : decode cX6_toNextOrder 71 = .ok (.iload_n 3, 1) := by decide +kernel
theorem dX6_toNextOrder_72 : decode cX6_toNextOrder 72 = .ok (.invokevirtual 363, 3) := by decide +kernel
theorem dX6_toNextOrder_75 : decode cX6_toNextOrder 75 = .ok (.iload_n 2, 1) := by decide +kernel
theorem dX6_toNextOrder_76 : decode cX6_toNextOrder 76 = .ok (.iconst 1, 1) := by decide +kernel
theorem dX6_toNextOrder_77 : decode cX6_toNextOrder 77 = .ok (.iadd, 1) := by decide +kernel
theorem dX6_toNextOrder_78 : decode cX6_toNextOrder 78 = .ok (.istore 4, 2) := by decide +kernel
theorem dX6_toNextOrder_80 : decode cX6_toNextOrder 80 = .ok (.iload_n 1, 1) := by decide +kernel
theorem dX6_toNextOrder_81 : decode cX6_toNextOrder 81 = .ok (.iconst 1, 1) := by decide +kernel
theorem dX6_toNextOrder_82 : decode cX6_toNextOrder 82 = .ok (.isub, 1) := by decide +kernel
theorem dX6_toNextOrder_83 : decode cX6_toNextOrder 83 = .ok (.istore 5, 2) := by decide +kernel
theorem dX6_toNextOrder_85 : decode cX6_toNextOrder 85 = .ok (.iload 4, 2) := by decide +kernel
theorem dX6_toNextOrder_87 : decode cX6_toNextOrder 87 = .ok (.iload 5, 2) := by decide +kernel
theorem dX6_toNextOrder_89 : decode cX6_toNextOrder 89 = .ok (.if_icmp .ge 20, 3) := by decide +kernel
theorem dX6_toNextOrder_92 : decode cX6_toNextOrder 92 = .ok (.aload_n 0, 1) := by decide +kernel
theorem dX6_toNextOrder_93 : decode cX6_toNextOrder 93 = .ok (.iload 4, 2) := by decide +kernel
theorem dX6_toNextOrder_95 : decode cX6_toNextOrder 95 = .ok (.iload 5, 2) := by decide +kernel
theorem dX6_toNextOrder_97 : decode cX6_toNextOrder 97 = .ok (.invokevirtual 363, 3) := by decide +kernel
theorem dX6_toNextOrder_100 : decode cX6_toNextOrder 100 = .ok (.iinc 4 1, 3) := by decide +kernel
theorem dX6_toNextOrder_103 : decode cX6_toNextOrder 103 = .ok (.iinc 5 (-1), 3) := by decide +kernel
theorem dX6_toNextOrder_106 : decode cX6_toNextOrder 106 = .ok (.goto (-21), 3) := by decide +kernel
theorem dX6_toNextOrder_109 : decode cX6_toNextOrder 109 = .ok (.iconst 1, 1) := by decide +kernel
theorem dX6_toNextOrder_110 : decode cX6_toNextOrder 110 = .ok (.ireturn, 1) := by decide +kernel
theorem dX6_swapInOrder_0 : decode cX6_swapInOrder 0 = .ok (.aload_n 0, 1) := by decide +kernel
theorem dX6_swapInOrder_1 : decode cX6_swapInOrder 1 = .ok (.getfield 68, 3) := by decide +kernel
theorem dX6_swapInOrder_4 : decode cX6_swapInOrder 4 = .ok (.iload_n 1, 1) := by decide +kernel
theorem dX6_swapInOrder_5 : decode cX6_swapInOrder 5 = .ok (.iaload, 1) := by decide +kernel
theorem dX6_swapInOrder_6 : decode cX6_swapInOrder 6 = .ok (.istore_n 3, 1) := by decide +kernel
theorem dX6_swapInOrder_7 : decode cX6_swapInOrder 7 = .ok (.aload_n 0, 1) := by decide +kernel
theorem dX6_swapInOrder_8 : decode cX6_swapInOrder 8 = .ok (.getfield 68, 3) := by decide +kernel
theorem dX6_swapInOrder_11 : decode cX6_swapInOrder 11 = .ok (.iload_n 1, 1) := by decide +kernel
theorem dX6_swapInOrder_12 : decode cX6_swapInOrder 12 = .ok (.aload_n 0, 1) := by decide +kernel
theorem dX6_swapInOrder_13 : decode cX6_swapInOrder 13 = .ok (.getfield 68, 3) := by decide +kernel
theorem dX6_swapInOrder_16 : decode cX6_swapInOrder 16 = .ok (.iload_n 2, 1) := by decide +kernel
theorem dX6_swapInOrder_17 : decode cX6_swapInOrder 17 = .ok (.iaload, 1) := by decide +kernel
theorem dX6_swapInOrder_18 : decode cX6_swapInOrder 18 = .ok (.iastore, 1) := by decide +kernel
theorem dX6_swapInOrder_19 : decode cX6_swapInOrder 19 = .ok (.aload_n 0, 1) := by decide +kernel
theorem dX6_swapInOrder_20 : decode cX6_swapInOrder 20 = .ok (.getfield 68, 3) := by decide +kernel
theorem dX6_swapInOrder_23 : decode cX6_swapInOrder 23 = .ok (.iload_n 2, 1) := by decide +kernel
theorem dX6_swapInOrder_24 : decode cX6_swapInOrder 24 = .ok (.iload_n 3, 1) := by decide +kernel
theorem dX6_swapInOrder_25 : decode cX6_swapInOrder 25 = .ok (.iastore, 1) := by decide +kernel
theorem dX6_swapInOrder_26 : decode cX6_swapInOrder 26 = .ok (.return_, 1) := by decide +kernel
end
section
theorem dX7_init_0 : decode cX7_init 0 = .ok (.aload_n 0, 1) := by decide +kernel
theorem dX7_init_1 : decode cX7_init 1 = .ok (.invokespecial 1, 3) := by decide +kernel
theorem dX7_init_4 : decode cX7_init 4 = .ok (.aload_n 0, 1) := by decide +kernel
theorem dX7_init_5 : decode cX7_init 5 = .ok (.bipush 60, 2) := by decide +kernel
theorem dX7_init_7 : decode cX7_init 7 = .ok (.putfield 7, 3) := by decide +kernel
theorem dX7_init_10 : decode cX7_init 10 = .ok (.aload_n 0, 1) := by decide +kernel
theorem dX7_init_11 : decode cX7_init 11 = .ok (.bipush 20, 2) := by decide +kernel
theorem dX7_init_13 : decode cX7_init 13 = .ok (.putfield 13, 3) := by decide +kernel
theorem dX7_init_16 : decode cX7_init 16 = .ok (.aload_n 0, 1) := by decide +kernel
theorem dX7_init_17 : decode cX7_init 17 = .ok (.sipush 1000, 3) := by decide +kernel
theorem dX7_init_20 : decode cX7_init 20 = .ok (.putfield 16, 3) := by decide +kernel
theorem dX7_init_23 : decode cX7_init 23 = .ok (.aload_n 0, 1) := by decide +kernel
theorem dX7_init_24 : decode cX7_init 24 = .ok (.iconst 1, 1) := by decide +kernel
theorem dX7_init_25 : decode cX7_init 25 = .ok (.putfield 19, 3) := by decide +kernel
theorem dX7_init_28 : decode cX7_init 28 = .ok (.aload_n 0, 1) := by decide +kernel
theorem dX7_init_29 : decode cX7_init 29 = .ok (.iconst (-1), 1) := by decide +kernel
theorem dX7_init_30 : decode cX7_init 30 = .ok (.putfield 22, 3) := by decide +kernel
theorem dX7_init_33 : decode cX7_init 33 = .ok (.aload_n 0, 1) := by decide +kernel
theorem dX7_init_34 : decode cX7_init 34 = .ok (.bipush 8, 2) := by decide +kernel
theorem dX7_init_36 : decode cX7_init 36 = .ok (.newarray .int, 2) := by decide +kernel
theorem dX7_init_38 : decode cX7_init 38 = .ok (.putfield 25, 3) := by decide +kernel
theorem dX7_init_41 : decode cX7_init 41 = .ok (.aload_n 0, 1) := by decide +kernel
theorem dX7_init_42 : decode cX7_init 42 = .ok (.bipush 6, 2) := by decide +kernel
theorem dX7_init_44 : decode cX7_init 44 = .ok (.newarray .int, 2) := by decide +kernel
theorem dX7_init_46 : decode cX7_init 46 = .ok (.putfield 29, 3) := by decide +kernel
theorem dX7_init_49 : decode cX7_init 49 = .ok (.aload_n 0, 1) := by decide +kernel
theorem dX7_init_50 : decode cX7_init 50 = .ok (.bipush 6, 2) := by decide +kernel
theorem dX7_init_52 : decode cX7_init 52 = .ok (.newarray .int, 2) := by decide +kernel
theorem dX7_init_54 : decode cX7_init 54 = .ok (.putfield 32, 3) := by decide +kernel
theorem dX7_init_57 : decode cX7_init 57 = .ok (.aload_n 0, 1) := by decide +kernel
theorem dX7_init_58 : decode cX7_init 58 = .ok (.bipush 6, 2) := by decide +kernel
theorem dX7_init_60 : decode cX7_init 60 = .ok (.newarray .int, 2) := by decide +kernel
theorem dX7_init_62 : decode cX7_init 62 = .ok (.putfield 35, 3) := by decide +kernel
theorem dX7_init_65 : decode cX7_init 65 = .ok (.aload_n 0, 1) := by decide +kernel
theorem dX7_init_66 : decode cX7_init 66 = .ok (.bipush 72, 2) := by decide +kernel
theorem dX7_init_68 : decode cX7_init 68 = .ok (.newarray .int, 2) := by decide +kernel
theorem dX7_init_70 : decode cX7_init 70 = .ok (.putfield 38, 3) := by decide +kernel
theorem dX7_init_73 : decode cX7_init 73 = .ok (.aload_n 0, 1) := by decide +kernel
theorem dX7_init_74 : decode cX7_init 74 = .ok (.bipush 10, 2) := by decide +kernel
theorem dX7_init_76 : decode cX7_init 76 = .ok (.newarray .int, 2) := by decide +kernel
theorem dX7_init_78 : decode cX7_init 78 = .ok (.putfield 41, 3) := by decide +kernel
theorem dX7_init_81 : decode cX7_init 81 = .ok (.aload_n 0, 1) := by decide +kernel
theorem dX7_init_82 : decode cX7_init 82 = .ok (.bipush 8, 2) := by decide +kernel
theorem dX7_init_84 : decode cX7_init 84 = .ok (.newarray .int, 2) := by decide +kernel
theorem dX7_init_86 : decode cX7_init 86 = .ok (.putfield 44, 3) := by decide +kernel
theorem dX7_init_89 : decode cX7_init 89 = .ok (.aload_n 0, 1) := by decide +kernel
theorem dX7_init_90 : decode cX7_init 90 = .ok (.bipush 8, 2) := by decide +kernel
theorem dX7_init_92 : decode cX7_init 92 = .ok (.newarray .int, 2) := by decide +kernel
theorem dX7_init_94 : decode cX7_init 94 = .ok (.putfield 47, 3) := by decide +kernel
theorem dX7_init_97 : decode cX7_init 97 = .ok (.aload_n 0, 1) := by decide +kernel
theorem dX7_init_98 : decode cX7_init 98 = .ok (.bipush 8, 2) := by decide +kernel
theorem dX7_init_100 : decode cX7_init 100 = .ok (.newarray .int, 2) := by decide +kernel
theorem dX7_init_102 : decode cX7_init 102 = .ok (.putfield 50, 3) := by decide +kernel
theorem dX7_init_105 : decode cX7_init 105 = .ok (.aload_n 0, 1) := by decide +kernel
theorem dX7_init_106 : decode cX7_init 106 = .ok (.bipush 8, 2) := by decide +kernel
theorem dX7_init_108 : decode cX7_init 108 = .ok (.newarray .int, 2) := by decide +kernel
theorem dX7_init_110 : decode cX7_init 110 = .ok (.putfield 53, 3) := by decide +kernel
theorem dX7_init_113 : decode cX7_init 113 = .ok (.aload_n 0, 1) := by decide +kernel
theorem dX7_init_114 : decode cX7_init 114 = .ok (.sipush 1280, 3) := by decide +kernel
theorem dX7_init_117 : decode cX7_init 117 = .ok (.newarray .long, 2) := by decide +kernel
theorem dX7_init_119 : decode cX7_init 119 = .ok (.putfield 56, 3) := by decide +kernel
theorem dX7_init_122 : decode cX7_init 122 = .ok (.aload_n 0, 1) := by decide +kernel
theorem dX7_init_123 : decode cX7_init 123 = .ok (.sipush 160, 3) := by decide +kernel
theorem dX7_init_126 : decode cX7_init 126 = .ok (.newarray .long, 2) := by decide +kernel
theorem dX7_init_128 : decode cX7_init 128 = .ok (.putfield 60, 3) := by decide +kernel
theorem dX7_init_131 : decode cX7_init 131 = .ok (.aload_n 0, 1) := by decide +kernel
theorem dX7_init_132 : decode cX7_init 132 = .ok (.bipush 43, 2) := by decide +kernel
theorem dX7_init_134 : decode cX7_init 134 = .ok (.newarray .int, 2) := by decide +kernel
theorem dX7_init_136 : decode cX7_init 136 = .ok (.dup, 1) := by decide +kernel
theorem dX7_init_137 : decode cX7_init 137 = .ok (.iconst 0, 1) := by decide +kernel
theorem dX7_init_138 : decode cX7_init 138 = .ok (.bipush 98, 2) := by decide +kernel
theorem dX7_init_140 : decode cX7_init 140 = .ok (.iastore, 1) := by decide +kernel
theorem dX7_init_141 : decode cX7_init 141 = .ok (.dup, 1) := by decide +kernel
theorem dX7_init_142 : decode cX7_init 142 = .ok (.iconst 1, 1) := by decide +kernel
theorem dX7_init_143 : decode cX7_init 143 = .ok (.bipush 105, 2) := by decide +kernel
theorem dX7_init_145 : decode cX7_init 145 = .ok (.iastore, 1) := by decide +kernel
theorem dX7_init_146 : decode cX7_init 146 = .ok (.dup, 1) := by decide +kernel
theorem dX7_init_147 : decode cX7_init 147 = .ok (.iconst 2, 1) := by decide +kernel
theorem dX7_init_148 : decode cX7_init 148 = .ok (.bipush 115, 2) := by decide +kernel
theorem dX7_init_150 : decode cX7_init 150 = .ok (.iastore, 1) := by decide +kernel
theorem dX7_init_151 : decode cX7_init 151 = .ok (.dup, 1) := by decide +kernel
theorem dX7_init_152 : decode cX7_init 152 = .ok (.iconst 3, 1) := by decide +kernel
theorem dX7_init_153 : decode cX7_init 153 = .ok (.bipush 99, 2) := by decide +kernel
theorem dX7_init_155 : decode cX7_init 155 = .ok (.iastore, 1) := by decide +kernel
theorem dX7_init_156 : decode cX7_init 156 = .ok (.dup, 1) := by decide +kernel
theorem dX7_init_157 : decode cX7_init 157 = .ok (.iconst 4, 1) := by decide +kernel
theorem dX7_init_158 : decode cX7_init 158 = .ok (.bipush 117, 2) := by decide +kernel
theorem dX7_init_160 : decode cX7_init 160 = .ok (.iastore, 1) := by decide +kernel
theorem dX7_init_161 : decode cX7_init 161 = .ok (.dup, 1) := by decide +kernel
theorem dX7_init_162 : decode cX7_init 162 = .ok (.iconst 5, 1) := by decide +kernel
theorem dX7_init_163 : decode cX7_init 163 = .ok (.bipush 105, 2) := by decide +kernel
theorem dX7_init_165 : decode cX7_init 165 = .ok (.iastore, 1) := by decide +kernel
theorem dX7_init_166 : decode cX7_init 166 = .ok (.dup, 1) := by decide +kernel
theorem dX7_init_167 : decode cX7_init 167 = .ok (.bipush 6, 2) := by decide +kernel
theorem dX7_init_169 : decode cX7_init 169 = .ok (.bipush 116, 2) := by decide +kernel
theorem dX7_init_171 : decode cX7_init 171 = .ok (.iastore, 1) := by decide +kernel
theorem dX7_init_172 : decode cX7_init 172 = .ok (.dup, 1) := by decide +kernel
theorem dX7_init_173 : decode cX7_init 173 = .ok (.bipush 7, 2) := by decide +kernel
theorem dX7_init_175 : decode cX7_init 175 = .ok (.bipush 32, 2) := by decide +kernel
theorem dX7_init_177 : decode cX7_init 177 = .ok (.iastore, 1) := by decide +kernel
theorem dX7_init_178 : decode cX7_init 178 = .ok (.dup, 1) := by decide +kernel
theorem dX7_init_179 : decode cX7_init 179 = .ok (.bipush 8, 2) := by decide +kernel
theorem dX7_init_181 : decode cX7_init 181 = .ok (.iconst 0, 1) := by decide +kernel
theorem dX7_init_182 : decode cX7_init 182 = .ok (.iastore, 1) := by decide +kernel
theorem dX7_init_183 : decode cX7_init 183 = .ok (.dup, 1) := by decide +kernel
theorem dX7_init_184 : decode cX7_init 184 = .ok (.bipush 9, 2) := by decide +kernel
theorem dX7_init_186 : decode cX7_init 186 = .ok (.bipush 119, 2) := by decide +kernel
theorem dX7_init_188 : decode cX7_init 188 = .ok (.iastore, 1) := by decide +kernel
theorem dX7_init_189 : decode cX7_init 189 = .ok (.dup, 1) := by decide +kernel
theorem dX7_init_190 : decode cX7_init 190 = .ok (.bipush 10, 2) := by decide +kernel
theorem dX7_init_192 : decode cX7_init 192 = .ok (.bipush 101, 2) := by decide +kernel
theorem dX7_init_194 : decode cX7_init 194 = .ok (.iastore, 1) := by decide +kernel
theorem dX7_init_195 : decode cX7_init 195 = .ok (.dup, 1) := by decide +kernel
theorem dX7_init_196 : decode cX7_init 196 = .ok (.bipush 11, 2) := by decide +kernel
theorem dX7_init_198 : decode cX7_init 198 = .ok (.bipush 116, 2) := by decide +kernel
theorem dX7_init_200 : decode cX7_init 200 = .ok (.iastore, 1) := by decide +kernel
theorem dX7_init_201 : decode cX7_init 201 = .ok (.dup, 1) := by decide +kernel
theorem dX7_init_202 : decode cX7_init 202 = .ok (.bipush 12, 2) := by decide +kernel
theorem dX7_init_204 : decode cX7_init 204 = .ok (.bipush 32, 2) := by decide +kernel
theorem dX7_init_206 : decode cX7_init 206 = .ok (.iastore, 1) := by decide +kernel
theorem dX7_init_207 : decode cX7_init 207 = .ok (.dup, 1) := by decide +kernel
theorem dX7_init_208 : decode cX7_init 208 = .ok (.bipush 13, 2) := by decide +kernel
theorem dX7_init_210 : decode cX7_init 210 = .ok (.iconst 0, 1) := by decide +kernel
theorem dX7_init_211 : decode cX7_init 211 = .ok (.iastore, 1) := by decide +kernel
theorem dX7_init_212 : decode cX7_init 212 = .ok (.dup, 1) := by decide +kernel
theorem dX7_init_213 : decode cX7_init 213 = .ok (.bipush 14, 2) := by decide +kernel
theorem dX7_init_215 : decode cX7_init 215 = .ok (.bipush 104, 2) := by decide +kernel
theorem dX7_init_217 : decode cX7_init 217 = .ok (.iastore, 1) := by decide +kernel
theorem dX7_init_218 : decode cX7_init 218 = .ok (.dup, 1) := by decide +kernel
theorem dX7_init_219 : decode cX7_init 219 = .ok (.bipush 15, 2) := by decide +kernel
theorem dX7_init_221 : decode cX7_init 221 = .ok (.bipush 101, 2) := by decide +kernel
theorem dX7_init_223 : decode cX7_init 223 = .ok (.iastore, 1) := by decide +kernel
theorem dX7_init_224 : decode cX7_init 224 = .ok (.dup, 1) := by decide +kernel
theorem dX7_init_225 : decode cX7_init 225 = .ok (.bipush 16, 2) := by decide +kernel
theorem dX7_init_227 : decode cX7_init 227 = .ok (.bipush 97, 2) := by decide +kernel
theorem dX7_init_229 : decode cX7_init 229 = .ok (.iastore, 1) := by decide +kernel
theorem dX7_init_230 : decode cX7_init 230 = .ok (.dup, 1) := by decide +kernel
theorem dX7_init_231 : decode cX7_init 231 = .ok (.bipush 17, 2) := by decide +kernel
theorem dX7_init_233 : decode cX7_init 233 = .ok (.bipush 116, 2) := by decide +kernel
theorem dX7_init_235 : decode cX7_init 235 = .ok (.iastore, 1) := by decide +kernel
theorem dX7_init_236 : decode cX7_init 236 = .ok (.dup, 1) := by decide +kernel
theorem dX7_init_237 : decode cX7_init 237 = .ok (.bipush 18, 2) := by decide +kernel
theorem dX7_init_239 : decode cX7_init 239 = .ok (.bipush 32, 2) := by decide +kernel
theorem dX7_init_241 : decode cX7_init 241 = .ok (.iastore, 1) := by decide +kernel
theorem dX7_init_242 : decode cX7_init 242 = .ok (.dup, 1) := by decide +kernel
theorem dX7_init_243 : decode cX7_init 243 = .ok (.bipush 19, 2) := by decide +kernel
theorem dX7_init_245 : decode cX7_init 245 = .ok (.iconst 0, 1) := by decide +kernel
theorem dX7_init_246 : decode cX7_init 246 = .ok (.iastore, 1) := by decide +kernel
theorem dX7_init_247 : decode cX7_init 247 = .ok (.dup, 1) := by decide +kernel
theorem dX7_init_248 : decode cX7_init 248 = .ok (.bipush 20, 2) := by decide +kernel
theorem dX7_init_250 : decode cX7_init 250 = .ok (.bipush 108, 2) := by decide +kernel
theorem dX7_init_252 : decode cX7_init 252 = .ok (.iastore, 1) := by decide +kernel
theorem dX7_init_253 : decode cX7_init 253 = .ok (.dup, 1) := by decide +kernel
theorem dX7_init_254 : decode cX7_init 254 = .ok (.bipush 21, 2) := by decide +kernel
theorem dX7_init_256 : decode cX7_init 256 = .ok (.bipush 111, 2) := by decide +kernel
theorem dX7_init_258 : decode cX7_init 258 = .ok (.iastore, 1) := by decide +kernel
theorem dX7_init_259 : decode cX7_init 259 = .ok (.dup, 1) := by decide +kernel
theorem dX7_init_260 : decode cX7_init 260 = .ok (.bipush 22, 2) := by decide +kernel
theorem dX7_init_262 : decode cX7_init 262 = .ok (.bipush 115, 2) := by decide +kernel
theorem dX7_init_264 : decode cX7_init 264 = .ok (.iastore, 1) := by decide +kernel
theorem dX7_init_265 : decode cX7_init 265 = .ok (.dup, 1) := by decide +kernel
theorem dX7_init_266 : decode cX7_init 266 = .ok (.bipush 23, 2) := by decide +kernel
theorem dX7_init_268 : decode cX7_init 268 = .ok (.bipush 115, 2) := by decide +kernel
theorem dX7_init_270 : decode cX7_init 270 = .ok (.iastore, 1) := by decide +kernel
theorem dX7_init_271 : decode cX7_init 271 = .ok (.dup, 1) := by decide +kernel
theorem dX7_init_272 : decode cX7_init 272 = .ok (.bipush 24, 2) := by decide +kernel
theorem dX7_init_274 : decode cX7_init 274 = .ok (.bipush 32, 2) := by decide +kernel
theorem dX7_init_276 : decode cX7_init 276 = .ok (.iastore, 1) := by decide +kernel
theorem dX7_init_277 : decode cX7_init 277 = .ok (.dup, 1) := by decide +kernel
theorem dX7_init_278 : decode cX7_init 278 = .ok (.bipush 25, 2) := by decide +kernel
theorem dX7_init_280 : decode cX7_init 280 = .ok (.iconst 0, 1) := by decide +kernel
theorem dX7_init_281 : decode cX7_init 281 = .ok (.iastore, 1) := by decide +kernel
theorem dX7_init_282 : decode cX7_init 282 = .ok (.dup, 1) := by decide +kernel
theorem dX7_init_283 : decode cX7_init 283 = .ok (.bipush 26, 2) := by decide +kernel
theorem dX7_init_285 : decode cX7_init 285 = .ok (.bipush 116, 2) := by decide +kernel
theorem dX7_init_287 : decode cX7_init 287 = .ok (.iastore, 1) := by decide +kernel
theorem dX7_init_288 : decode cX7_init 288 = .ok (.dup, 1) := by decide +kernel
theorem dX7_init_289 : decode cX7_init 289 = .ok (.bipush 27, 2) := by decide +kernel
theorem dX7_init_291 : decode cX7_init 291 = .ok (.bipush 101, 2) := by decide +kernel
theorem dX7_init_293 : decode cX7_init 293 = .ok (.iastore, 1) := by decide +kernel
theorem dX7_init_294 : decode cX7_init 294 = .ok (.dup, 1) := by decide +kernel
theorem dX7_init_295 : decode cX7_init 295 = .ok (.bipush 28, 2) := by decide +kernel
theorem dX7_init_297 : decode cX7_init 297 = .ok (.bipush 97, 2) := by decide +kernel
theorem dX7_init_299 : decode cX7_init 299 = .ok (.iastore, 1) := by decide +kernel
theorem dX7_init_300 : decode cX7_init 300 = .ok (.dup, 1) := by decide +kernel
theorem dX7_init_301 : decode cX7_init 301 = .ok (.bipush 29, 2) := by decide +kernel
theorem dX7_init_303 : decode cX7_init 303 = .ok (.bipush 32, 2) := by decide +kernel
theorem dX7_init_305 : decode cX7_init 305 = .ok (.iastore, 1) := by decide +kernel
theorem dX7_init_306 : decode cX7_init 306 = .ok (.dup, 1) := by decide +kernel
theorem dX7_init_307 : decode cX7_init 307 = .ok (.bipush 30, 2) := by decide +kernel
theorem dX7_init_309 : decode cX7_init 309 = .ok (.iconst 0, 1) := by decide +kernel
theorem dX7_init_310 : decode cX7_init 310 = .ok (.iastore, 1) := by decide +kernel
theorem dX7_init_311 : decode cX7_init 311 = .ok (.dup, 1) := by decide +kernel
theorem dX7_init_312 : decode cX7_init 312 = .ok (.bipush 31, 2) := by decide +kernel
theorem dX7_init_314 : decode cX7_init 314 = .ok (.bipush 119, 2) := by decide +kernel
theorem dX7_init_316 : decode cX7_init 316 = .ok (.iastore, 1) := by decide +kernel
theorem dX7_init_317 : decode cX7_init 317 = .ok (.dup, 1) := by decide +kernel
theorem dX7_init_318 : decode cX7_init 318 = .ok (.bipush 32, 2) := by decide +kernel
theorem dX7_init_320 : decode cX7_init 320 = .ok (.bipush 111, 2) := by decide +kernel
theorem dX7_init_322 : decode cX7_init 322 = .ok (.iastore, 1) := by decide +kernel
theorem dX7_init_323 : decode cX7_init 323 = .ok (.dup, 1) := by decide +kernel
theorem dX7_init_324 : decode cX7_init 324 = .ok (.bipush 33, 2) := by decide +kernel
theorem dX7_init_326 : decode cX7_init 326 = .ok (.bipush 114, 2) := by decide +kernel
theorem dX7_init_328 : decode cX7_init 328 = .ok (.iastore, 1) := by decide +kernel
theorem dX7_init_329 : decode cX7_init 329 = .ok (.dup, 1) := by decide +kernel
theorem dX7_init_330 : decode cX7_init 330 = .ok (.bipush 34, 2) := by decide +kernel
theorem dX7_init_332 : decode cX7_init 332 = .ok (.bipush 116, 2) := by decide +kernel
theorem dX7_init_334 : decode cX7_init 334 = .ok (.iastore, 1) := by decide +kernel
theorem dX7_init_335 : decode cX7_init 335 = .ok (.dup, 1) := by decide +kernel
theorem dX7_init_336 : decode cX7_init 336 = .ok (.bipush 35, 2) := by decide +kernel
theorem dX7_init_338 : decode cX7_init 338 = .ok (.bipush 104, 2) := by decide +kernel
theorem dX7_init_340 : decode cX7_init 340 = .ok (.iastore, 1) := by decide +kernel
theorem dX7_init_341 : decode cX7_init 341 = .ok (.dup, 1) := by decide +kernel
theorem dX7_init_342 : decode cX7_init 342 = .ok (.bipush 36, 2) := by decide +kernel
theorem dX7_init_344 : decode cX7_init 344 = .ok (.bipush 32, 2) := by decide +kernel
theorem dX7_init_346 : decode cX7_init 346 = .ok (.iastore, 1) := by decide +kernel
theorem dX7_init_347 : decode cX7_init 347 = .ok (.dup, 1) := by decide +kernel
theorem dX7_init_348 : decode cX7_init 348 = .ok (.bipush 37, 2) := by decide +kernel
theorem dX7_init_350 : decode cX7_init 350 = .ok (.iconst 0, 1) := by decide +kernel
theorem dX7_init_351 : decode cX7_init 351 = .ok (.iastore, 1) := by decide +kernel
theorem dX7_init_352 : decode cX7_init 352 = .ok (.dup, 1) := by decide +kernel
theorem dX7_init_353 : decode cX7_init 353 = .ok (.bipush 38, 2) := by decide +kernel
theorem dX7_init_355 : decode cX7_init 355 = .ok (.bipush 100, 2) := by decide +kernel
theorem dX7_init_357 : decode cX7_init 357 = .ok (.iastore, 1) := by decide +kernel
theorem dX7_init_358 : decode cX7_init 358 = .ok (.dup, 1) := by decide +kernel
theorem dX7_init_359 : decode cX7_init 359 = .ok (.bipush 39, 2) := by decide +kernel
theorem dX7_init_361 : decode cX7_init 361 = .ok (.bipush 105, 2) := by decide +kernel
theorem dX7_init_363 : decode cX7_init 363 = .ok (.iastore, 1) := by decide +kernel
theorem dX7_init_364 : decode cX7_init 364 = .ok (.dup, 1) := by decide +kernel
theorem dX7_init_365 : decode cX7_init 365 = .ok (.bipush 40, 2) := by decide +kernel
theorem dX7_init_367 : decode cX7_init 367 = .ok (.bipush 112, 2) := by decide +kernel
theorem dX7_init_369 : decode cX7_init 369 = .ok (.iastore, 1) := by decide +kernel
theorem dX7_init_370 : decode cX7_init 370 = .ok (.dup, 1) := by decide +kernel
theorem dX7_init_371 : decode cX7_init 371 = .ok (.bipush 41, 2) := by decide +kernel
theorem dX7_init_373 : decode cX7_init 373 = .ok (.bipush 32, 2) := by decide +kernel
theorem dX7_init_375 : decode cX7_init 375 = .ok (.iastore, 1) := by decide +kernel
theorem dX7_init_376 : decode cX7_init 376 = .ok (.dup, 1) := by decide +kernel
theorem dX7_init_377 : decode cX7_init 377 = .ok (.bipush 42, 2) := by decide +kernel
theorem dX7_init_379 : decode cX7_init 379 = .ok (.iconst 0, 1) := by decide +kernel
theorem dX7_init_380 : decode cX7_init 380 = .ok (.iastore, 1) := by decide +kernel
theorem dX7_init_381 : decode cX7_init 381 = .ok (.putfield 63, 3) := by decide +kernel
theorem dX7_init_384 : decode cX7_init 384 = .ok (.aload_n 0, 1) := by decide +kernel
theorem dX7_init_385 : decode cX7_init 385 = .ok (.iconst 3, 1) := by decide +kernel
theorem dX7_init_386 : decode cX7_init 386 = .ok (.newarray .int, 2) := by decide +kernel
theorem dX7_init_388 : decode cX7_init 388 = .ok (.putfield 66, 3) := by decide +kernel
theorem dX7_init_391 : decode cX7_init 391 = .ok (.aload_n 0, 1) := by decide +kernel
theorem dX7_init_392 : decode cX7_init 392 = .ok (.bipush 120, 2) := by decide +kernel
theorem dX7_init_394 : decode cX7_init 394 = .ok (.newarray .int, 2) := by decide +kernel
theorem dX7_init_396 : decode cX7_init 396 = .ok (.putfield 69, 3) := by decide +kernel
theorem dX7_init_399 : decode cX7_init 399 = .ok (.aload_n 0, 1) := by decide +kernel
theorem dX7_init_400 : decode cX7_init 400 = .ok (.bipush 120, 2) := by decide +kernel
theorem dX7_init_402 : decode cX7_init 402 = .ok (.newarray .int, 2) := by decide +kernel
theorem dX7_init_404 : decode cX7_init 404 = .ok (.putfield 72, 3) := by decide +kernel
theorem dX7_init_407 : decode cX7_init 407 = .ok (.aload_n 0, 1) := by decide +kernel
theorem dX7_init_408 : decode cX7_init 408 = .ok (.bipush 12, 2) := by decide +kernel
theorem dX7_init_410 : decode cX7_init 410 = .ok (.newarray .int, 2) := by decide +kernel
theorem dX7_init_412 : decode cX7_init 412 = .ok (.putfield 75, 3) := by decide +kernel
theorem dX7_init_415 : decode cX7_init 415 = .ok (.aload_n 0, 1) := by decide +kernel
theorem dX7_init_416 : decode cX7_init 416 = .ok (.bipush 12, 2) := by decide +kernel
theorem dX7_init_418 : decode cX7_init 418 = .ok (.newarray .int, 2) := by decide +kernel
theorem dX7_init_420 : decode cX7_init 420 = .ok (.putfield 78, 3) := by decide +kernel
theorem dX7_init_423 : decode cX7_init 423 = .ok (.aload_n 0, 1) := by decide +kernel
theorem dX7_init_424 : decode cX7_init 424 = .ok (.iconst 5, 1) := by decide +kernel
theorem dX7_init_425 : decode cX7_init 425 = .ok (.newarray .int, 2) := by decide +kernel
theorem dX7_init_427 : decode cX7_init 427 = .ok (.putfield 81, 3) := by decide +kernel
theorem dX7_init_430 : decode cX7_init 430 = .ok (.aload_n 0, 1) := by decide +kernel
theorem dX7_init_431 : decode cX7_init 431 = .ok (.iconst 5, 1) := by decide +kernel
theorem dX7_init_432 : decode cX7_init 432 = .ok (.newarray .int, 2) := by decide +kernel
theorem dX7_init_434 : decode cX7_init 434 = .ok (.putfield 84, 3) := by decide +kernel
theorem dX7_init_437 : decode cX7_init 437 = .ok (.aload_n 0, 1) := by decide +kernel
theorem dX7_init_438 : decode cX7_init 438 = .ok (.bipush 20, 2) := by decide +kernel
theorem dX7_init_440 : decode cX7_init 440 = .ok (.newarray .int, 2) := by decide +kernel
theorem dX7_init_442 : decode cX7_init 442 = .ok (.putfield 87, 3) := by decide +kernel
theorem dX7_init_445 : decode cX7_init 445 = .ok (.return_, 1) := by decide +kernel
theorem dX7_no_0 : decode cX7_no 0 = .ok (.aload_n 0, 1) := by decide +kernel
theorem dX7_no_1 : decode cX7_no 1 = .ok (.getfield 25, 3) := by decide +kernel
theorem dX7_no_4 : decode cX7_no 4 = .ok (.iload_n 1, 1) := by decide +kernel
theorem dX7_no_5 : decode cX7_no 5 = .ok (.ineg, 1) := by decide +kernel
theorem dX7_no_6 : decode cX7_no 6 = .ok (.dup2, 1) := by decide +kernel
theorem dX7_no_7 : decode cX7_no 7 = .ok (.iaload, 1) := by decide +kernel
theorem dX7_no_8 : decode cX7_no 8 = .ok (.iconst 1, 1) := by decide +kernel
theorem dX7_no_9 : decode cX7_no 9 = .ok (.iadd, 1) := by decide +kernel
theorem dX7_no_10 : decode cX7_no 10 = .ok (.iastore, 1) := by decide +kernel
theorem dX7_no_11 : decode cX7_no 11 = .ok (.iload_n 1, 1) := by decide +kernel
theorem dX7_no_12 : decode cX7_no 12 = .ok (.ireturn, 1) := by decide +kernel
theorem dX7_noTen_0 : decode cX7_noTen 0 = .ok (.aload_n 0, 1) := by decide +kernel
theorem dX7_noTen_1 : decode cX7_noTen 1 = .ok (.getfield 25, 3) := by decide +kernel
theorem dX7_noTen_4 : decode cX7_noTen 4 = .ok (.iload_n 1, 1) := by decide +kernel
theorem dX7_noTen_5 : decode cX7_noTen 5 = .ok (.ineg, 1) := by decide +kernel
theorem dX7_noTen_6 : decode cX7_noTen 6 = .ok (.dup2, 1) := by decide +kernel
theorem dX7_noTen_7 : decode cX7_noTen 7 = .ok (.iaload, 1) := by decide +kernel
theorem dX7_noTen_8 : decode cX7_noTen 8 = .ok (.iconst 1, 1) := by decide +kernel
theorem dX7_noTen_9 : decode cX7_noTen 9 = .ok (.iadd, 1) := by decide +kernel
theorem dX7_noTen_10 : decode cX7_noTen 10 = .ok (.iastore, 1) := by decide +kernel
theorem dX7_noTen_11 : decode cX7_noTen 11 = .ok (.iload_n 1, 1) := by decide +kernel
theorem dX7_noTen_12 : decode cX7_noTen 12 = .ok (.bipush 10, 2) := by decide +kernel
theorem dX7_noTen_14 : decode cX7_noTen 14 = .ok (.isub, 1) := by decide +kernel
theorem dX7_noTen_15 : decode cX7_noTen 15 = .ok (.ireturn, 1) := by decide +kernel
theorem dX7_noFar_0 : decode cX7_noFar 0 = .ok (.aload_n 0, 1) := by decide +kernel
theorem dX7_noFar_1 : decode cX7_noFar 1 = .ok (.getfield 25, 3) := by decide +kernel
theorem dX7_noFar_4 : decode cX7_noFar 4 = .ok (.iload_n 1, 1) := by decide +kernel
theorem dX7_noFar_5 : decode cX7_noFar 5 = .ok (.ineg, 1) := by decide +kernel
theorem dX7_noFar_6 : decode cX7_noFar 6 = .ok (.dup2, 1) := by decide +kernel
theorem dX7_noFar_7 : decode cX7_noFar 7 = .ok (.iaload, 1) := by decide +kernel
theorem dX7_noFar_8 : decode cX7_noFar 8 = .ok (.iconst 1, 1) := by decide +kernel
theorem dX7_noFar_9 : decode cX7_noFar 9 = .ok (.iadd, 1) := by decide +kernel
theorem dX7_noFar_10 : decode cX7_noFar 10 = .ok (.iastore, 1) := by decide +kernel
theorem dX7_noFar_11 : decode cX7_noFar 11 = .ok (.iload_n 1, 1) := by decide +kernel
theorem dX7_noFar_12 : decode cX7_noFar 12 = .ok (.sipush 1000, 3) := by decide +kernel
theorem dX7_noFar_15 : decode cX7_noFar 15 = .ok (.isub, 1) := by decide +kernel
theorem dX7_noFar_16 : decode cX7_noFar 16 = .ok (.ireturn, 1) := by decide +kernel
theorem dX7_isShelf_0 : decode cX7_isShelf 0 = .ok (.iload_n 1, 1) := by decide +kernel
theorem dX7_isShelf_1 : decode cX7_isShelf 1 = .ok (.ifCond .lt 13, 3) := by decide +kernel
theorem dX7_isShelf_4 : decode cX7_isShelf 4 = .ok (.iload_n 1, 1) := by decide +kernel
theorem dX7_isShelf_5 : decode cX7_isShelf 5 = .ok (.bipush 8, 2) := by decide +kernel
theorem dX7_isShelf_7 : decode cX7_isShelf 7 = .ok (.if_icmp .ge 7, 3) := by decide +kernel
theorem dX7_isShelf_10 : decode cX7_isShelf 10 = .ok (.iconst 1, 1) := by decide +kernel
theorem dX7_isShelf_11 : decode cX7_isShelf 11 = .ok (.goto 4, 3) := by decide +kernel
theorem dX7_isShelf_14 : decode cX7_isShelf 14 = .ok (.iconst 0, 1) := by decide +kernel
theorem dX7_isShelf_15 : decode cX7_isShelf 15 = .ok (.ireturn, 1) := by decide +kernel
theorem dX7_isBiscuit_0 : decode cX7_isBiscuit 0 = .ok (.iload_n 1, 1) := by decide +kernel
theorem dX7_isBiscuit_1 : decode cX7_isBiscuit 1 = .ok (.ifCond .lt 15, 3) := by decide +kernel
theorem dX7_isBiscuit_4 : decode cX7_isBiscuit 4 = .ok (.iload_n 1, 1) := by decide +kernel
theorem dX7_isBiscuit_5 : decode cX7_isBiscuit 5 = .ok (.aload_n 0, 1) := by decide +kernel
theorem dX7_isBiscuit_6 : decode cX7_isBiscuit 6 = .ok (.getfield 90, 3) := by decide +kernel
theorem dX7_isBiscuit_9 : decode cX7_isBiscuit 9 = .ok (.if_icmp .ge 7, 3) := by decide +kernel
theorem dX7_isBiscuit_12 : decode cX7_isBiscuit 12 = .ok (.iconst 1, 1) := by decide +kernel
theorem dX7_isBiscuit_13 : decode cX7_isBiscuit 13 = .ok (.goto 4, 3) := by decide +kernel
theorem dX7_isBiscuit_16 : decode cX7_isBiscuit 16 = .ok (.iconst 0, 1) := by decide +kernel
theorem dX7_isBiscuit_17 : decode cX7_isBiscuit 17 = .ok (.ireturn, 1) := by decide +kernel
theorem dX7_isCell_0 : decode cX7_isCell 0 = .ok (.aload_n 0, 1) := by decide +kernel
theorem dX7_isCell_1 : decode cX7_isCell 1 = .ok (.iload_n 1, 1) := by decide +kernel
theorem dX7_isCell_2 : decode cX7_isCell 2 = .ok (.invokevirtual 93, 3) := by decide +kernel
theorem dX7_isCell_5 : decode cX7_isCell 5 = .ok (.ifCond .eq 21, 3) := by decide +kernel
theorem dX7_isCell_8 : decode cX7_isCell 8 = .ok (.iload_n 2, 1) := by decide +kernel
theorem dX7_isCell_9 : decode cX7_isCell 9 = .ok (.ifCond .lt 17, 3) := by decide +kernel
theorem dX7_isCell_12 : decode cX7_isCell 12 = .ok (.iload_n 2, 1) := by decide +kernel
theorem dX7_isCell_13 : decode cX7_isCell 13 = .ok (.aload_n 0, 1) := by decide +kernel
theorem dX7_isCell_14 : decode cX7_isCell 14 = .ok (.getfield 35, 3) := by decide +kernel
theorem dX7_isCell_17 : decode cX7_isCell 17 = .ok (.iload_n 1, 1) := by decide +kernel
theorem dX7_isCell_18 : decode cX7_isCell 18 = .ok (.iaload, 1) := by decide +kernel
theorem dX7_isCell_19 : decode cX7_isCell 19 = .ok (.if_icmp .ge 7, 3) := by decide +kernel
theorem dX7_isCell_22 : decode cX7_isCell 22 = .ok (.iconst 1, 1) := by decide +kernel
theorem dX7_isCell_23 : decode cX7_isCell 23 = .ok (.goto 4, 3) := by decide +kernel
theorem dX7_isCell_26 : decode cX7_isCell 26 = .ok (.iconst 0, 1) := by decide +kernel
theorem dX7_isCell_27 : decode cX7_isCell 27 = .ok (.ireturn, 1) := by decide +kernel
theorem dX7_isDeep_0 : decode cX7_isDeep 0 = .ok (.iload_n 1, 1) := by decide +kernel
theorem dX7_isDeep_1 : decode cX7_isDeep 1 = .ok (.ifCond .lt 13, 3) := by decide +kernel
theorem dX7_isDeep_4 : decode cX7_isDeep 4 = .ok (.iload_n 1, 1) := by decide +kernel
theorem dX7_isDeep_5 : decode cX7_isDeep 5 = .ok (.bipush 12, 2) := by decide +kernel
theorem dX7_isDeep_7 : decode cX7_isDeep 7 = .ok (.if_icmp .gt 7, 3) := by decide +kernel
theorem dX7_isDeep_10 : decode cX7_isDeep 10 = .ok (.iconst 1, 1) := by decide +kernel
theorem dX7_isDeep_11 : decode cX7_isDeep 11 = .ok (.goto 4, 3) := by decide +kernel
theorem dX7_isDeep_14 : decode cX7_isDeep 14 = .ok (.iconst 0, 1) := by decide +kernel
theorem dX7_isDeep_15 : decode cX7_isDeep 15 = .ok (.ireturn, 1) := by decide +kernel
theorem dX7_isLong_0 : decode cX7_isLong 0 = .ok (.iload_n 1, 1) := by decide +kernel
theorem dX7_isLong_1 : decode cX7_isLong 1 = .ok (.ifCond .lt 13, 3) := by decide +kernel
theorem dX7_isLong_4 : decode cX7_isLong 4 = .ok (.iload_n 1, 1) := by decide +kernel
theorem dX7_isLong_5 : decode cX7_isLong 5 = .ok (.bipush 60, 2) := by decide +kernel
theorem dX7_isLong_7 : decode cX7_isLong 7 = .ok (.if_icmp .gt 7, 3) := by decide +kernel
theorem dX7_isLong_10 : decode cX7_isLong 10 = .ok (.iconst 1, 1) := by decide +kernel
theorem dX7_isLong_11 : decode cX7_isLong 11 = .ok (.goto 4, 3) := by decide +kernel
theorem dX7_isLong_14 : decode cX7_isLong 14 = .ok (.iconst 0, 1) := by decide +kernel
theorem dX7_isLong_15 : decode cX7_isLong 15 = .ok (.ireturn, 1) := by decide +kernel
theorem dX7_row_0 : decode cX7_row 0 = .ok (.aload_n 0, 1) := by decide +kernel
theorem dX7_row_1 : decode cX7_row 1 = .ok (.iload_n 1, 1) := by decide +kernel
theorem dX7_row_2 : decode cX7_row 2 = .ok (.invokevirtual 97, 3) := by decide +kernel
theorem dX7_row_5 : decode cX7_row 5 = .ok (.ifCond .ne 9, 3) := by decide +kernel
theorem dX7_row_8 : decode cX7_row 8 = .ok (.aload_n 0, 1) := by decide +kernel
theorem dX7_row_9 : decode cX7_row 9 = .ok (.iconst (-1), 1) := by decide +kernel
theorem dX7_row_10 : decode cX7_row 10 = .ok (.invokevirtual 100, 3) := by decide +kernel
theorem dX7_row_13 : decode cX7_row 13 = .ok (.ireturn, 1) := by decide +kernel
theorem dX7_row_14 : decode cX7_row 14 = .ok (.iload_n 3, 1) := by decide +kernel
theorem dX7_row_15 : decode cX7_row 15 = .ok (.ifCond .ge 10, 3) := by decide +kernel
theorem dX7_row_18 : decode cX7_row 18 = .ok (.aload_n 0, 1) := by decide +kernel
theorem dX7_row_19 : decode cX7_row 19 = .ok (.bipush (-4), 2) := by decide +kernel
theorem dX7_row_21 : decode cX7_row 21 = .ok (.invokevirtual 100, 3) := by decide +kernel
theorem dX7_row_24 : decode cX7_row 24 = .ok (.ireturn, 1) := by decide +kernel
theorem dX7_row_25 : decode cX7_row 25 = .ok (.iload_n 2, 1) := by decide +kernel
theorem dX7_row_26 : decode cX7_row 26 = .ok (.ifCond .lt 8, 3) := by decide +kernel
theorem dX7_row_29 : decode cX7_row 29 = .ok (.iload_n 2, 1) := by decide +kernel
theorem dX7_row_30 : decode cX7_row 30 = .ok (.iconst 3, 1) := by decide +kernel
theorem dX7_row_31 : decode cX7_row 31 = .ok (.if_icmp .le 10, 3) := by decide +kernel
theorem dX7_row_34 : decode cX7_row 34 = .ok (.aload_n 0, 1) := by decide +kernel
theorem dX7_row_35 : decode cX7_row 35 = .ok (.bipush (-6), 2) := by decide +kernel
theorem dX7_row_37 : decode cX7_row 37 = .ok (.invokevirtual 100, 3) := by decide +kernel
theorem dX7_row_40 : decode cX7_row 40 = .ok (.ireturn, 1) := by decide +kernel
theorem dX7_row_41 : decode cX7_row 41 = .ok (.iload_n 3, 1) := by decide +kernel
theorem dX7_row_42 : decode cX7_row 42 = .ok (.sipush 160, 3) := by decide +kernel
theorem dX7_row_45 : decode cX7_row 45 = .ok (.if_icmp .le 10, 3) := by decide +kernel
theorem dX7_row_48 : decode cX7_row 48 = .ok (.aload_n 0, 1) := by decide +kernel
theorem dX7_row_49 : decode cX7_row 49 = .ok (.bipush (-7), 2) := by decide +kernel
theorem dX7_row_51 : decode cX7_row 51 = .ok (.invokevirtual 100, 3) := by decide +kernel
theorem dX7_row_54 : decode cX7_row 54 = .ok (.ireturn, 1) := by decide +kernel
theorem dX7_row_55 : decode cX7_row 55 = .ok (.aload_n 0, 1) := by decide +kernel
theorem dX7_row_56 : decode cX7_row 56 = .ok (.getfield 44, 3) := by decide +kernel
theorem dX7_row_59 : decode cX7_row 59 = .ok (.iload_n 1, 1) := by decide +kernel
theorem dX7_row_60 : decode cX7_row 60 = .ok (.iconst 1, 1) := by decide +kernel
theorem dX7_row_61 : decode cX7_row 61 = .ok (.iastore, 1) := by decide +kernel
theorem dX7_row_62 : decode cX7_row 62 = .ok (.aload_n 0, 1) := by decide +kernel
theorem dX7_row_63 : decode cX7_row 63 = .ok (.getfield 47, 3) := by decide +kernel
theorem dX7_row_66 : decode cX7_row 66 = .ok (.iload_n 1, 1) := by decide +kernel
theorem dX7_row_67 : decode cX7_row 67 = .ok (.iload_n 2, 1) := by decide +kernel
theorem dX7_row_68 : decode cX7_row 68 = .ok (.iastore, 1) := by decide +kernel
theorem dX7_row_69 : decode cX7_row 69 = .ok (.aload_n 0, 1) := by decide +kernel
theorem dX7_row_70 : decode cX7_row 70 = .ok (.getfield 50, 3) := by decide +kernel
theorem dX7_row_73 : decode cX7_row 73 = .ok (.iload_n 1, 1) := by decide +kernel
theorem dX7_row_74 : decode cX7_row 74 = .ok (.iload_n 3, 1) := by decide +kernel
theorem dX7_row_75 : decode cX7_row 75 = .ok (.iastore, 1) := by decide +kernel
theorem dX7_row_76 : decode cX7_row 76 = .ok (.iconst 0, 1) := by decide +kernel
theorem dX7_row_77 : decode cX7_row 77 = .ok (.istore 4, 2) := by decide +kernel
theorem dX7_row_79 : decode cX7_row 79 = .ok (.iload 4, 2) := by decide +kernel
theorem dX7_row_81 : decode cX7_row 81 = .ok (.sipush 160, 3) := by decide +kernel
theorem dX7_row_84 : decode cX7_row 84 = .ok (.if_icmp .ge 23, 3) := by decide +kernel
theorem dX7_row_87 : decode cX7_row 87 = .ok (.aload_n 0, 1) := by decide +kernel
theorem dX7_row_88 : decode cX7_row 88 = .ok (.getfield 56, 3) := by decide +kernel
theorem dX7_row_91 : decode cX7_row 91 = .ok (.sipush 160, 3) := by decide +kernel
theorem dX7_row_94 : decode cX7_row 94 = .ok (.iload_n 1, 1) := by decide +kernel
theorem dX7_row_95 : decode cX7_row 95 = .ok (.imul, 1) := by decide +kernel
theorem dX7_row_96 : decode cX7_row 96 = .ok (.iload 4, 2) := by decide +kernel
theorem dX7_row_98 : decode cX7_row 98 = .ok (.iadd, 1) := by decide +kernel
theorem dX7_row_99 : decode cX7_row 99 = .ok (.lconst 0, 1) := by decide +kernel
theorem dX7_row_100 : decode cX7_row 100 = .ok (.lastore, 1) := by decide +kernel
theorem dX7_row_101 : decode cX7_row 101 = .ok (.iinc 4 1, 3) := by decide +kernel
theorem dX7_row_104 : decode cX7_row 104 = .ok (.goto (-25), 3) := by decide +kernel
theorem dX7_row_107 : decode cX7_row 107 = .ok (.iconst 1, 1) := by decide +kernel
theorem dX7_row_108 : decode cX7_row 108 = .ok (.ireturn, 1) := by decide +kernel
theorem dX7_set_0 : decode cX7_set 0 = .ok (.aload_n 0, 1) := by decide +kernel
theorem dX7_set_1 : decode cX7_set 1 = .ok (.iload_n 1, 1) := by decide +kernel
theorem dX7_set_2 : decode cX7_set 2 = .ok (.invokevirtual 97, 3) := by decide +kernel
theorem dX7_set_5 : decode cX7_set 5 = .ok (.ifCond .ne 9, 3) := by decide +kernel
theorem dX7_set_8 : decode cX7_set 8 = .ok (.aload_n 0, 1) := by decide +kernel
theorem dX7_set_9 : decode cX7_set 9 = .ok (.iconst (-1), 1) := by decide +kernel
theorem dX7_set_10 : decode cX7_set 10 = .ok (.invokevirtual 100, 3) := by decide +kernel
theorem dX7_set_13 : decode cX7_set 13 = .ok (.ireturn, 1) := by decide +kernel
theorem dX7_set_14 : decode cX7_set 14 = .ok (.aload_n 0, 1) := by decide +kernel
theorem dX7_set_15 : decode cX7_set 15 = .ok (.getfield 44, 3) := by decide +kernel
theorem dX7_set_18 : decode cX7_set 18 = .ok (.iload_n 1, 1) := by decide +kernel
theorem dX7_set_19 : decode cX7_set 19 = .ok (.iaload, 1) := by decide +kernel
theorem dX7_set_20 : decode cX7_set 20 = .ok (.iconst 2, 1) := by decide +kernel
theorem dX7_set_21 : decode cX7_set 21 = .ok (.if_icmp .ne 10, 3) := by decide +kernel
theorem dX7_set_24 : decode cX7_set 24 = .ok (.aload_n 0, 1) := by decide +kernel
theorem dX7_set_25 : decode cX7_set 25 = .ok (.bipush (-2), 2) := by decide +kernel
theorem dX7_set_27 : decode cX7_set 27 = .ok (.invokevirtual 100, 3) := by decide +kernel
theorem dX7_set_30 : decode cX7_set 30 = .ok (.ireturn, 1) := by decide +kernel
theorem dX7_set_31 : decode cX7_set 31 = .ok (.aload_n 0, 1) := by decide +kernel
theorem dX7_set_32 : decode cX7_set 32 = .ok (.getfield 44, 3) := by decide +kernel
theorem dX7_set_35 : decode cX7_set 35 = .ok (.iload_n 1, 1) := by decide +kernel
theorem dX7_set_36 : decode cX7_set 36 = .ok (.iaload, 1) := by decide +kernel
theorem dX7_set_37 : decode cX7_set 37 = .ok (.ifCond .ne 10, 3) := by decide +kernel
theorem dX7_set_40 : decode cX7_set 40 = .ok (.aload_n 0, 1) := by decide +kernel
theorem dX7_set_41 : decode cX7_set 41 = .ok (.bipush (-3), 2) := by decide +kernel
theorem dX7_set_43 : decode cX7_set 43 = .ok (.invokevirtual 100, 3) := by decide +kernel
theorem dX7_set_46 : decode cX7_set 46 = .ok (.ireturn, 1) := by decide +kernel
theorem dX7_set_47 : decode cX7_set 47 = .ok (.iload_n 2, 1) := by decide +kernel
theorem dX7_set_48 : decode cX7_set 48 = .ok (.ifCond .lt 13, 3) := by decide +kernel
theorem dX7_set_51 : decode cX7_set 51 = .ok (.iload_n 2, 1) := by decide +kernel
theorem dX7_set_52 : decode cX7_set 52 = .ok (.aload_n 0, 1) := by decide +kernel
theorem dX7_set_53 : decode cX7_set 53 = .ok (.getfield 50, 3) := by decide +kernel
theorem dX7_set_56 : decode cX7_set 56 = .ok (.iload_n 1, 1) := by decide +kernel
theorem dX7_set_57 : decode cX7_set 57 = .ok (.iaload, 1) := by decide +kernel
theorem dX7_set_58 : decode cX7_set 58 = .ok (.if_icmp .lt 10, 3) := by decide +kernel
theorem dX7_set_61 : decode cX7_set 61 = .ok (.aload_n 0, 1) := by decide +kernel
theorem dX7_set_62 : decode cX7_set 62 = .ok (.bipush (-5), 2) := by decide +kernel
theorem dX7_set_64 : decode cX7_set 64 = .ok (.invokevirtual 100, 3) := by decide +kernel
theorem dX7_set_67 : decode cX7_set 67 = .ok (.ireturn, 1) := by decide +kernel
theorem dX7_set_68 : decode cX7_set 68 = .ok (.aload_n 0, 1) := by decide +kernel
theorem dX7_set_69 : decode cX7_set 69 = .ok (.getfield 56, 3) := by decide +kernel
theorem dX7_set_72 : decode cX7_set 72 = .ok (.sipush 160, 3) := by decide +kernel
theorem dX7_set_75 : decode cX7_set 75 = .ok (.iload_n 1, 1) := by decide +kernel
theorem dX7_set_76 : decode cX7_set 76 = .ok (.imul, 1) := by decide +kernel
theorem dX7_set_77 : decode cX7_set 77 = .ok (.iload_n 2, 1) := by decide +kernel
theorem dX7_set_78 : decode cX7_set 78 = .ok (.iadd, 1) := by decide +kernel
theorem dX7_set_79 : decode cX7_set 79 = .ok (.aload_n 0, 1) := by decide +kernel
theorem dX7_set_80 : decode cX7_set 80 = .ok (.getfield 47, 3) := by decide +kernel
theorem dX7_set_83 : decode cX7_set 83 = .ok (.iload_n 1, 1) := by decide +kernel
theorem dX7_set_84 : decode cX7_set 84 = .ok (.iaload, 1) := by decide +kernel
theorem dX7_set_85 : decode cX7_set 85 = .ok (.ifCond .ne 10, 3) := by decide +kernel
theorem dX7_set_88 : decode cX7_set 88 = .ok (.lload_n 3, 1) := by decide +kernel
theorem dX7_set_89 : decode cX7_set 89 = .ok (.l2i, 1) := by decide +kernel
theorem dX7_set_90 : decode cX7_set 90 = .ok (.i2b, 1) := by decide +kernel
theorem dX7_set_91 : decode cX7_set 91 = .ok (.i2l, 1) := by decide +kernel
theorem dX7_set_92 : decode cX7_set 92 = .ok (.goto 37, 3) := by decide +kernel
theorem dX7_set_95 : decode cX7_set 95 = .ok (.aload_n 0, 1) := by decide +kernel
theorem dX7_set_96 : decode cX7_set 96 = .ok (.getfield 47, 3) := by decide +kernel
theorem dX7_set_99 : decode cX7_set 99 = .ok (.iload_n 1, 1) := by decide +kernel
theorem dX7_set_100 : decode cX7_set 100 = .ok (.iaload, 1) := by decide +kernel
theorem dX7_set_101 : decode cX7_set 101 = .ok (.iconst 1, 1) := by decide +kernel
theorem dX7_set_102 : decode cX7_set 102 = .ok (.if_icmp .ne 10, 3) := by decide +kernel
theorem dX7_set_105 : decode cX7_set 105 = .ok (.lload_n 3, 1) := by decide +kernel
theorem dX7_set_106 : decode cX7_set 106 = .ok (.l2i, 1) := by decide +kernel
theorem dX7_set_107 : decode cX7_set 107 = .ok (.i2s, 1) := by decide +kernel
theorem dX7_set_108 : decode cX7_set 108 = .ok (.i2l, 1) := by decide +kernel
theorem dX7_set_109 : decode cX7_set 109 = .ok (.goto 20, 3) := by decide +kernel
theorem dX7_set_112 : decode cX7_set 112 = .ok (.aload_n 0, 1) := by decide +kernel
theorem dX7_set_113 : decode cX7_set 113 = .ok (.getfield 47, 3) := by decide +kernel
theorem dX7_set_116 : decode cX7_set 116 = .ok (.iload_n 1, 1) := by decide +kernel
theorem dX7_set_117 : decode cX7_set 117 = .ok (.iaload, 1) := by decide +kernel
theorem dX7_set_118 : decode cX7_set 118 = .ok (.iconst 2, 1) := by decide +kernel
theorem dX7_set_119 : decode cX7_set 119 = .ok (.if_icmp .ne 9, 3) := by decide +kernel
theorem dX7_set_122 : decode cX7_set 122 = .ok (.lload_n 3, 1) := by decide +kernel
theorem dX7_set_123 : decode cX7_set 123 = .ok (.l2i, 1) := by decide +kernel
theorem dX7_set_124 : decode cX7_set 124 = .ok (.i2l, 1) := by decide +kernel
theorem dX7_set_125 : decode cX7_set 125 = .ok (.goto 4, 3) := by decide +kernel
theorem dX7_set_128 : decode cX7_set 128 = .ok (.lload_n 3, 1) := by decide +kernel
theorem dX7_set_129 : decode cX7_set 129 = .ok (.lastore, 1) := by decide +kernel
theorem dX7_set_130 : decode cX7_set 130 = .ok (.iconst 1, 1) := by decide +kernel
theorem dX7_set_131 : decode cX7_set 131 = .ok (.ireturn, 1) := by decide +kernel
theorem dX7_copy_0 : decode cX7_copy 0 = .ok (.aload_n 0, 1) := by decide +kernel
theorem dX7_copy_1 : decode cX7_copy 1 = .ok (.iload_n 1, 1) := by decide +kernel
theorem dX7_copy_2 : decode cX7_copy 2 = .ok (.invokevirtual 97, 3) := by decide +kernel
theorem dX7_copy_5 : decode cX7_copy 5 = .ok (.ifCond .eq 11, 3) := by decide +kernel
theorem dX7_copy_8 : decode cX7_copy 8 = .ok (.aload_n 0, 1) := by decide +kernel
theorem dX7_copy_9 : decode cX7_copy 9 = .ok (.iload_n 2, 1) := by decide +kernel
theorem dX7_copy_10 : decode cX7_copy 10 = .ok (.invokevirtual 97, 3) := by decide +kernel
theorem dX7_copy_13 : decode cX7_copy 13 = .ok (.ifCond .ne 9, 3) := by decide +kernel
theorem dX7_copy_16 : decode cX7_copy 16 = .ok (.aload_n 0, 1) := by decide +kernel
theorem dX7_copy_17 : decode cX7_copy 17 = .ok (.iconst (-1), 1) := by decide +kernel
theorem dX7_copy_18 : decode cX7_copy 18 = .ok (.invokevirtual 100, 3) := by decide +kernel
theorem dX7_copy_21 : decode cX7_copy 21 = .ok (.ireturn, 1) := by decide +kernel
theorem dX7_copy_22 : decode cX7_copy 22 = .ok (.aload_n 0, 1) := by decide +kernel
theorem dX7_copy_23 : decode cX7_copy 23 = .ok (.getfield 44, 3) := by decide +kernel
theorem dX7_copy_26 : decode cX7_copy 26 = .ok (.iload_n 1, 1) := by decide +kernel
theorem dX7_copy_27 : decode cX7_copy 27 = .ok (.iaload, 1) := by decide +kernel
theorem dX7_copy_28 : decode cX7_copy 28 = .ok (.iconst 2, 1) := by decide +kernel
theorem dX7_copy_29 : decode cX7_copy 29 = .ok (.if_icmp .eq 48, 3) := by decide +kernel
theorem dX7_copy_32 : decode cX7_copy 32 = .ok (.aload_n 0, 1) := by decide +kernel
theorem dX7_copy_33 : decode cX7_copy 33 = .ok (.getfield 44, 3) := by decide +kernel
theorem dX7_copy_36 : decode cX7_copy 36 = .ok (.iload_n 2, 1) := by decide +kernel
theorem dX7_copy_37 : decode cX7_copy 37 = .ok (.iaload, 1) := by decide +kernel
theorem dX7_copy_38 : decode cX7_copy 38 = .ok (.iconst 2, 1) := by decide +kernel
theorem dX7_copy_39 : decode cX7_copy 39 = .ok (.if_icmp .eq 38, 3) := by decide +kernel
theorem dX7_copy_42 : decode cX7_copy 42 = .ok (.aload_n 0, 1) := by decide +kernel
theorem dX7_copy_43 : decode cX7_copy 43 = .ok (.getfield 44, 3) := by decide +kernel
theorem dX7_copy_46 : decode cX7_copy 46 = .ok (.iload_n 1, 1) := by decide +kernel
theorem dX7_copy_47 : decode cX7_copy 47 = .ok (.iaload, 1) := by decide +kernel
theorem dX7_copy_48 : decode cX7_copy 48 = .ok (.iconst 1, 1) := by decide +kernel
theorem dX7_copy_49 : decode cX7_copy 49 = .ok (.if_icmp .ne 35, 3) := by decide +kernel
theorem dX7_copy_52 : decode cX7_copy 52 = .ok (.aload_n 0, 1) := by decide +kernel
theorem dX7_copy_53 : decode cX7_copy 53 = .ok (.getfield 44, 3) := by decide +kernel
theorem dX7_copy_56 : decode cX7_copy 56 = .ok (.iload_n 2, 1) := by decide +kernel
theorem dX7_copy_57 : decode cX7_copy 57 = .ok (.iaload, 1) := by decide +kernel
theorem dX7_copy_58 : decode cX7_copy 58 = .ok (.iconst 1, 1) := by decide +kernel
theorem dX7_copy_59 : decode cX7_copy 59 = .ok (.if_icmp .ne 25, 3) := by decide +kernel
theorem dX7_copy_62 : decode cX7_copy 62 = .ok (.aload_n 0, 1) := by decide +kernel
theorem dX7_copy_63 : decode cX7_copy 63 = .ok (.getfield 47, 3) := by decide +kernel
theorem dX7_copy_66 : decode cX7_copy 66 = .ok (.iload_n 1, 1) := by decide +kernel
theorem dX7_copy_67 : decode cX7_copy 67 = .ok (.iaload, 1) := by decide +kernel
theorem dX7_copy_68 : decode cX7_copy 68 = .ok (.aload_n 0, 1) := by decide +kernel
theorem dX7_copy_69 : decode cX7_copy 69 = .ok (.getfield 47, 3) := by decide +kernel
theorem dX7_copy_72 : decode cX7_copy 72 = .ok (.iload_n 2, 1) := by decide +kernel
theorem dX7_copy_73 : decode cX7_copy 73 = .ok (.iaload, 1) := by decide +kernel
theorem dX7_copy_74 : decode cX7_copy 74 = .ok (.if_icmp .eq 10, 3) := by decide +kernel
theorem dX7_copy_77 : decode cX7_copy 77 = .ok (.aload_n 0, 1) := by decide +kernel
theorem dX7_copy_78 : decode cX7_copy 78 = .ok (.bipush (-2), 2) := by decide +kernel
theorem dX7_copy_80 : decode cX7_copy 80 = .ok (.invokevirtual 100, 3) := by decide +kernel
theorem dX7_copy_83 : decode cX7_copy 83 = .ok (.ireturn, 1) := by decide +kernel
theorem dX7_copy_84 : decode cX7_copy 84 = .ok (.aload_n 0, 1) := by decide +kernel
theorem dX7_copy_85 : decode cX7_copy 85 = .ok (.getfield 44, 3) := by decide +kernel
theorem dX7_copy_88 : decode cX7_copy 88 = .ok (.iload_n 1, 1) := by decide +kernel
theorem dX7_copy_89 : decode cX7_copy 89 = .ok (.iaload, 1) := by decide +kernel
theorem dX7_copy_90 : decode cX7_copy 90 = .ok (.ifCond .eq 12, 3) := by decide +kernel
theorem dX7_copy_93 : decode cX7_copy 93 = .ok (.aload_n 0, 1) := by decide +kernel
theorem dX7_copy_94 : decode cX7_copy 94 = .ok (.getfield 44, 3) := by decide +kernel
theorem dX7_copy_97 : decode cX7_copy 97 = .ok (.iload_n 2, 1) := by decide +kernel
theorem dX7_copy_98 : decode cX7_copy 98 = .ok (.iaload, 1) := by decide +kernel
theorem dX7_copy_99 : decode cX7_copy 99 = .ok (.ifCond .ne 10, 3) := by decide +kernel
theorem dX7_copy_102 : decode cX7_copy 102 = .ok (.aload_n 0, 1) := by decide +kernel
theorem dX7_copy_103 : decode cX7_copy 103 = .ok (.bipush (-3), 2) := by decide +kernel
theorem dX7_copy_105 : decode cX7_copy 105 = .ok (.invokevirtual 100, 3) := by decide +kernel
theorem dX7_copy_108 : decode cX7_copy 108 = .ok (.ireturn, 1) := by decide +kernel
theorem dX7_copy_109 : decode cX7_copy 109 = .ok (.iload 5, 2) := by decide +kernel
theorem dX7_copy_111 : decode cX7_copy 111 = .ok (.ifCond .ge 10, 3) := by decide +kernel
theorem dX7_copy_114 : decode cX7_copy 114 = .ok (.aload_n 0, 1) := by decide +kernel
theorem dX7_copy_115 : decode cX7_copy 115 = .ok (.bipush (-4), 2) := by decide +kernel
theorem dX7_copy_117 : decode cX7_copy 117 = .ok (.invokevirtual 100, 3) := by decide +kernel
theorem dX7_copy_120 : decode cX7_copy 120 = .ok (.ireturn, 1) := by decide +kernel
theorem dX7_copy_121 : decode cX7_copy 121 = .ok (.iload_n 3, 1) := by decide +kernel
theorem dX7_copy_122 : decode cX7_copy 122 = .ok (.ifCond .lt 35, 3) := by decide +kernel
theorem dX7_copy_125 : decode cX7_copy 125 = .ok (.iload 4, 2) := by decide +kernel
theorem dX7_copy_127 : decode cX7_copy 127 = .ok (.ifCond .lt 30, 3) := by decide +kernel
theorem dX7_copy_130 : decode cX7_copy 130 = .ok (.iload_n 3, 1) := by decide +kernel
theorem dX7_copy_131 : decode cX7_copy 131 = .ok (.aload_n 0, 1) := by decide +kernel
theorem dX7_copy_132 : decode cX7_copy 132 = .ok (.getfield 50, 3) := by decide +kernel
theorem dX7_copy_135 : decode cX7_copy 135 = .ok (.iload_n 1, 1) := by decide +kernel
theorem dX7_copy_136 : decode cX7_copy 136 = .ok (.iaload, 1) := by decide +kernel
theorem dX7_copy_137 : decode cX7_copy 137 = .ok (.iload 5, 2) := by decide +kernel
theorem dX7_copy_139 : decode cX7_copy 139 = .ok (.isub, 1) := by decide +kernel
theorem dX7_copy_140 : decode cX7_copy 140 = .ok (.if_icmp .gt 17, 3) := by decide +kernel
theorem dX7_copy_143 : decode cX7_copy 143 = .ok (.iload 4, 2) := by decide +kernel
theorem dX7_copy_145 : decode cX7_copy 145 = .ok (.aload_n 0, 1) := by decide +kernel
theorem dX7_copy_146 : decode cX7_copy 146 = .ok (.getfield 50, 3) := by decide +kernel
theorem dX7_copy_149 : decode cX7_copy 149 = .ok (.iload_n 2, 1) := by decide +kernel
theorem dX7_copy_150 : decode cX7_copy 150 = .ok (.iaload, 1) := by decide +kernel
theorem dX7_copy_151 : decode cX7_copy 151 = .ok (.iload 5, 2) := by decide +kernel
theorem dX7_copy_153 : decode cX7_copy 153 = .ok (.isub, 1) := by decide +kernel
theorem dX7_copy_154 : decode cX7_copy 154 = .ok (.if_icmp .le 10, 3) := by decide +kernel
theorem dX7_copy_157 : decode cX7_copy 157 = .ok (.aload_n 0, 1) := by decide +kernel
theorem dX7_copy_158 : decode cX7_copy 158 = .ok (.bipush (-5), 2) := by decide +kernel
theorem dX7_copy_160 : decode cX7_copy 160 = .ok (.invokevirtual 100, 3) := by decide +kernel
theorem dX7_copy_163 : decode cX7_copy 163 = .ok (.ireturn, 1) := by decide +kernel
theorem dX7_copy_164 : decode cX7_copy 164 = .ok (.iconst 0, 1) := by decide +kernel
theorem dX7_copy_165 : decode cX7_copy 165 = .ok (.istore 6, 2) := by decide +kernel
theorem dX7_copy_167 : decode cX7_copy 167 = .ok (.iload 6, 2) := by decide +kernel
theorem dX7_copy_169 : decode cX7_copy 169 = .ok (.iload 5, 2) := by decide +kernel
theorem dX7_copy_171 : decode cX7_copy 171 = .ok (.if_icmp .ge 31, 3) := by decide +kernel
theorem dX7_copy_174 : decode cX7_copy 174 = .ok (.aload_n 0, 1) := by decide +kernel
theorem dX7_copy_175 : decode cX7_copy 175 = .ok (.getfield 60, 3) := by decide +kernel
theorem dX7_copy_178 : decode cX7_copy 178 = .ok (.iload 6, 2) := by decide +kernel
theorem dX7_copy_180 : decode cX7_copy 180 = .ok (.aload_n 0, 1) := by decide +kernel
theorem dX7_copy_181 : decode cX7_copy 181 = .ok (.getfield 56, 3) := by decide +kernel
theorem dX7_copy_184 : decode cX7_copy 184 = .ok (.sipush 160, 3) := by decide +kernel
theorem dX7_copy_187 : decode cX7_copy 187 = .ok (.iload_n 1, 1) := by decide +kernel
theorem dX7_copy_188 : decode cX7_copy 188 = .ok (.imul, 1) := by decide +kernel
theorem dX7_copy_189 : decode cX7_copy 189 = .ok (.iload_n 3, 1) := by decide +kernel
theorem dX7_copy_190 : decode cX7_copy 190 = .ok (.iadd, 1) := by decide +kernel
theorem dX7_copy_191 : decode cX7_copy 191 = .ok (.iload 6, 2) := by decide +kernel
theorem dX7_copy_193 : decode cX7_copy 193 = .ok (.iadd, 1) := by decide +kernel
theorem dX7_copy_194 : decode cX7_copy 194 = .ok (.laload, 1) := by decide +kernel
theorem dX7_copy_195 : decode cX7_copy 195 = .ok (.lastore, 1) := by decide +kernel
theorem dX7_copy_196 : decode cX7_copy 196 = .ok (.iinc 6 1, 3) := by decide +kernel
theorem dX7_copy_199 : decode cX7_copy 199 = .ok (.goto (-32), 3) := by decide +kernel
theorem dX7_copy_202 : decode cX7_copy 202 = .ok (.iconst 0, 1) := by decide +kernel
theorem dX7_copy_203 : decode cX7_copy 203 = .ok (.istore 6, 2) := by decide +kernel
theorem dX7_copy_205 : decode cX7_copy 205 = .ok (.iload 6, 2) := by decide +kernel
theorem dX7_copy_207 : decode cX7_copy 207 = .ok (.iload 5, 2) := by decide +kernel
theorem dX7_copy_209 : decode cX7_copy 209 = .ok (.if_icmp .ge 32, 3) := by decide +kernel
theorem dX7_copy_212 : decode cX7_copy 212 = .ok (.aload_n 0, 1) := by decide +kernel
theorem dX7_copy_213 : decode cX7_copy 213 = .ok (.getfield 56, 3) := by decide +kernel
theorem dX7_copy_216 : decode cX7_copy 216 = .ok (.sipush 160, 3) := by decide +kernel
theorem dX7_copy_219 : decode cX7_copy 219 = .ok (.iload_n 2, 1) := by decide +kernel
theorem dX7_copy_220 : decode cX7_copy 220 = .ok (.imul, 1) := by decide +kernel
theorem dX7_copy_221 : decode cX7_copy 221 = .ok (.iload 4, 2) := by decide +kernel
theorem dX7_copy_223 : decode cX7_copy 223 = .ok (.iadd, 1) := by decide +kernel
theorem dX7_copy_224 : decode cX7_copy 224 = .ok (.iload 6, 2) := by decide +kernel
theorem dX7_copy_226 : decode cX7_copy 226 = .ok (.iadd, 1) := by decide +kernel
theorem dX7_copy_227 : decode cX7_copy 227 = .ok (.aload_n 0, 1) := by decide +kernel
theorem dX7_copy_228 : decode cX7_copy 228 = .ok (.getfield 60, 3) := by decide +kernel
theorem dX7_copy_231 : decode cX7_copy 231 = .ok (.iload 6, 2) := by decide +kernel
theorem dX7_copy_233 : decode cX7_copy 233 = .ok (.laload, 1) := by decide +kernel
theorem dX7_copy_234 : decode cX7_copy 234 = .ok (.lastore, 1) := by decide +kernel
theorem dX7_copy_235 : decode cX7_copy 235 = .ok (.iinc 6 1, 3) := by decide +kernel
theorem dX7_copy_238 : decode cX7_copy 238 = .ok (.goto (-33), 3) := by decide +kernel
theorem dX7_copy_241 : decode cX7_copy 241 = .ok (.iconst 1, 1) := by decide +kernel
theorem dX7_copy_242 : decode cX7_copy 242 = .ok (.ireturn, 1) := by decide +kernel
theorem dX7_element_0 : decode cX7_element 0 = .ok (.aload_n 0, 1) := by decide +kernel
theorem dX7_element_1 : decode cX7_element 1 = .ok (.iload_n 1, 1) := by decide +kernel
theorem dX7_element_2 : decode cX7_element 2 = .ok (.invokevirtual 97, 3) := by decide +kernel
theorem dX7_element_5 : decode cX7_element 5 = .ok (.ifCond .eq 42, 3) := by decide +kernel
theorem dX7_element_8 : decode cX7_element 8 = .ok (.aload_n 0, 1) := by decide +kernel
theorem dX7_element_9 : decode cX7_element 9 = .ok (.getfield 44, 3) := by decide +kernel
theorem dX7_element_12 : decode cX7_element 12 = .ok (.iload_n 1, 1) := by decide +kernel
theorem dX7_element_13 : decode cX7_element 13 = .ok (.iaload, 1) := by decide +kernel
theorem dX7_element_14 : decode cX7_element 14 = .ok (.iconst 1, 1) := by decide +kernel
theorem dX7_element_15 : decode cX7_element 15 = .ok (.if_icmp .ne 32, 3) := by decide +kernel
theorem dX7_element_18 : decode cX7_element 18 = .ok (.iload_n 2, 1) := by decide +kernel
theorem dX7_element_19 : decode cX7_element 19 = .ok (.ifCond .lt 28, 3) := by decide +kernel
theorem dX7_element_22 : decode cX7_element 22 = .ok (.iload_n 2, 1) := by decide +kernel
theorem dX7_element_23 : decode cX7_element 23 = .ok (.aload_n 0, 1) := by decide +kernel
theorem dX7_element_24 : decode cX7_element 24 = .ok (.getfield 50, 3) := by decide +kernel
theorem dX7_element_27 : decode cX7_element 27 = .ok (.iload_n 1, 1) := by decide +kernel
theorem dX7_element_28 : decode cX7_element 28 = .ok (.iaload, 1) := by decide +kernel
theorem dX7_element_29 : decode cX7_element 29 = .ok (.if_icmp .ge 18, 3) := by decide +kernel
theorem dX7_element_32 : decode cX7_element 32 = .ok (.aload_n 0, 1) := by decide +kernel
theorem dX7_element_33 : decode cX7_element 33 = .ok (.getfield 56, 3) := by decide +kernel
theorem dX7_element_36 : decode cX7_element 36 = .ok (.sipush 160, 3) := by decide +kernel
theorem dX7_element_39 : decode cX7_element 39 = .ok (.iload_n 1, 1) := by decide +kernel
theorem dX7_element_40 : decode cX7_element 40 = .ok (.imul, 1) := by decide +kernel
theorem dX7_element_41 : decode cX7_element 41 = .ok (.iload_n 2, 1) := by decide +kernel
theorem dX7_element_42 : decode cX7_element 42 = .ok (.iadd, 1) := by decide +kernel
theorem dX7_element_43 : decode cX7_element 43 = .ok (.laload, 1) := by decide +kernel
theorem dX7_element_44 : decode cX7_element 44 = .ok (.goto 4, 3) := by decide +kernel
theorem dX7_element_47 : decode cX7_element 47 = .ok (.lconst 0, 1) := by decide +kernel
theorem dX7_element_48 : decode cX7_element 48 = .ok (.lreturn, 1) := by decide +kernel
theorem dX7_show_0 : decode cX7_show 0 = .ok (.aload_n 0, 1) := by decide +kernel
theorem dX7_show_1 : decode cX7_show 1 = .ok (.iload_n 1, 1) := by decide +kernel
theorem dX7_show_2 : decode cX7_show 2 = .ok (.invokevirtual 97, 3) := by decide +kernel
theorem dX7_show_5 : decode cX7_show 5 = .ok (.ifCond .eq 16, 3) := by decide +kernel
theorem dX7_show_8 : decode cX7_show 8 = .ok (.iload_n 2, 1) := by decide +kernel
theorem dX7_show_9 : decode cX7_show 9 = .ok (.iconst (-1), 1) := by decide +kernel
theorem dX7_show_10 : decode cX7_show 10 = .ok (.if_icmp .eq 17, 3) := by decide +kernel
theorem dX7_show_13 : decode cX7_show 13 = .ok (.aload_n 0, 1) := by decide +kernel
theorem dX7_show_14 : decode cX7_show 14 = .ok (.iload_n 2, 1) := by decide +kernel
theorem dX7_show_15 : decode cX7_show 15 = .ok (.invokevirtual 93, 3) := by decide +kernel
theorem dX7_show_18 : decode cX7_show 18 = .ok (.ifCond .ne 9, 3) := by decide +kernel
theorem dX7_show_21 : decode cX7_show 21 = .ok (.aload_n 0, 1) := by decide +kernel
theorem dX7_show_22 : decode cX7_show 22 = .ok (.iconst (-1), 1) := by decide +kernel
theorem dX7_show_23 : decode cX7_show 23 = .ok (.invokevirtual 100, 3) := by decide +kernel
theorem dX7_show_26 : decode cX7_show 26 = .ok (.ireturn, 1) := by decide +kernel
theorem dX7_show_27 : decode cX7_show 27 = .ok (.aload_n 0, 1) := by decide +kernel
theorem dX7_show_28 : decode cX7_show 28 = .ok (.getfield 44, 3) := by decide +kernel
theorem dX7_show_31 : decode cX7_show 31 = .ok (.iload_n 1, 1) := by decide +kernel
theorem dX7_show_32 : decode cX7_show 32 = .ok (.iload_n 2, 1) := by decide +kernel
theorem dX7_show_33 : decode cX7_show 33 = .ok (.iconst (-1), 1) := by decide +kernel
theorem dX7_show_34 : decode cX7_show 34 = .ok (.if_icmp .ne 7, 3) := by decide +kernel
theorem dX7_show_37 : decode cX7_show 37 = .ok (.iconst 0, 1) := by decide +kernel
theorem dX7_show_38 : decode cX7_show 38 = .ok (.goto 4, 3) := by decide +kernel
theorem dX7_show_41 : decode cX7_show 41 = .ok (.iconst 2, 1) := by decide +kernel
theorem dX7_show_42 : decode cX7_show 42 = .ok (.iastore, 1) := by decide +kernel
theorem dX7_show_43 : decode cX7_show 43 = .ok (.aload_n 0, 1) := by decide +kernel
theorem dX7_show_44 : decode cX7_show 44 = .ok (.getfield 53, 3) := by decide +kernel
theorem dX7_show_47 : decode cX7_show 47 = .ok (.iload_n 1, 1) := by decide +kernel
theorem dX7_show_48 : decode cX7_show 48 = .ok (.iload_n 2, 1) := by decide +kernel
theorem dX7_show_49 : decode cX7_show 49 = .ok (.iastore, 1) := by decide +kernel
theorem dX7_show_50 : decode cX7_show 50 = .ok (.iload_n 2, 1) := by decide +kernel
theorem dX7_show_51 : decode cX7_show 51 = .ok (.iconst (-1), 1) := by decide +kernel
theorem dX7_show_52 : decode cX7_show 52 = .ok (.if_icmp .ne 7, 3) := by decide +kernel
theorem dX7_show_55 : decode cX7_show 55 = .ok (.iconst 0, 1) := by decide +kernel
theorem dX7_show_56 : decode cX7_show 56 = .ok (.goto 4, 3) := by decide +kernel
theorem dX7_show_59 : decode cX7_show 59 = .ok (.iconst 1, 1) := by decide +kernel
theorem dX7_show_60 : decode cX7_show 60 = .ok (.ireturn, 1) := by decide +kernel
theorem dX7_holds_0 : decode cX7_holds 0 = .ok (.aload_n 0, 1) := by decide +kernel
theorem dX7_holds_1 : decode cX7_holds 1 = .ok (.iload_n 1, 1) := by decide +kernel
theorem dX7_holds_2 : decode cX7_holds 2 = .ok (.invokevirtual 97, 3) := by decide +kernel
theorem dX7_holds_5 : decode cX7_holds 5 = .ok (.ifCond .eq 12, 3) := by decide +kernel
theorem dX7_holds_8 : decode cX7_holds 8 = .ok (.aload_n 0, 1) := by decide +kernel
theorem dX7_holds_9 : decode cX7_holds 9 = .ok (.getfield 44, 3) := by decide +kernel
theorem dX7_holds_12 : decode cX7_holds 12 = .ok (.iload_n 1, 1) := by decide +kernel
theorem dX7_holds_13 : decode cX7_holds 13 = .ok (.iaload, 1) := by decide +kernel
theorem dX7_holds_14 : decode cX7_holds 14 = .ok (.ifCond .ne 5, 3) := by decide +kernel
theorem dX7_holds_17 : decode cX7_holds 17 = .ok (.iconst (-1), 1) := by decide +kernel
theorem dX7_holds_18 : decode cX7_holds 18 = .ok (.ireturn, 1) := by decide +kernel
theorem dX7_holds_19 : decode cX7_holds 19 = .ok (.aload_n 0, 1) := by decide +kernel
theorem dX7_holds_20 : decode cX7_holds 20 = .ok (.getfield 44, 3) := by decide +kernel
theorem dX7_holds_23 : decode cX7_holds 23 = .ok (.iload_n 1, 1) := by decide +kernel
theorem dX7_holds_24 : decode cX7_holds 24 = .ok (.iaload, 1) := by decide +kernel
theorem dX7_holds_25 : decode cX7_holds 25 = .ok (.iconst 1, 1) := by decide +kernel
theorem dX7_holds_26 : decode cX7_holds 26 = .ok (.if_icmp .ne 15, 3) := by decide +kernel
theorem dX7_holds_29 : decode cX7_holds 29 = .ok (.bipush 100, 2) := by decide +kernel
theorem dX7_holds_31 : decode cX7_holds 31 = .ok (.aload_n 0, 1) := by decide +kernel
theorem dX7_holds_32 : decode cX7_holds 32 = .ok (.getfield 47, 3) := by decide +kernel
theorem dX7_holds_35 : decode cX7_holds 35 = .ok (.iload_n 1, 1) := by decide +kernel
theorem dX7_holds_36 : decode cX7_holds 36 = .ok (.iaload, 1) := by decide +kernel
theorem dX7_holds_37 : decode cX7_holds 37 = .ok (.iadd, 1) := by decide +kernel
theorem dX7_holds_38 : decode cX7_holds 38 = .ok (.goto 9, 3) := by decide +kernel
theorem dX7_holds_41 : decode cX7_holds 41 = .ok (.aload_n 0, 1) := by decide +kernel
theorem dX7_holds_42 : decode cX7_holds 42 = .ok (.getfield 53, 3) := by decide +kernel
theorem dX7_holds_45 : decode cX7_holds 45 = .ok (.iload_n 1, 1) := by decide +kernel
theorem dX7_holds_46 : decode cX7_holds 46 = .ok (.iaload, 1) := by decide +kernel
theorem dX7_holds_47 : decode cX7_holds 47 = .ok (.ireturn, 1) := by decide +kernel
theorem dX7_says_0 : decode cX7_says 0 = .ok (.aload_n 0, 1) := by decide +kernel
theorem dX7_says_1 : decode cX7_says 1 = .ok (.iload_n 1, 1) := by decide +kernel
theorem dX7_says_2 : decode cX7_says 2 = .ok (.invokevirtual 97, 3) := by decide +kernel
theorem dX7_says_5 : decode cX7_says 5 = .ok (.ifCond .eq 13, 3) := by decide +kernel
theorem dX7_says_8 : decode cX7_says 8 = .ok (.iload_n 2, 1) := by decide +kernel
theorem dX7_says_9 : decode cX7_says 9 = .ok (.ifCond .lt 9, 3) := by decide +kernel
theorem dX7_says_12 : decode cX7_says 12 = .ok (.iload_n 2, 1) := by decide +kernel
theorem dX7_says_13 : decode cX7_says 13 = .ok (.bipush 6, 2) := by decide +kernel
theorem dX7_says_15 : decode cX7_says 15 = .ok (.if_icmp .le 9, 3) := by decide +kernel
theorem dX7_says_18 : decode cX7_says 18 = .ok (.aload_n 0, 1) := by decide +kernel
theorem dX7_says_19 : decode cX7_says 19 = .ok (.iconst (-1), 1) := by decide +kernel
theorem dX7_says_20 : decode cX7_says 20 = .ok (.invokevirtual 100, 3) := by decide +kernel
theorem dX7_says_23 : decode cX7_says 23 = .ok (.ireturn, 1) := by decide +kernel
theorem dX7_says_24 : decode cX7_says 24 = .ok (.aload_n 0, 1) := by decide +kernel
theorem dX7_says_25 : decode cX7_says 25 = .ok (.getfield 44, 3) := by decide +kernel
theorem dX7_says_28 : decode cX7_says 28 = .ok (.iload_n 1, 1) := by decide +kernel
theorem dX7_says_29 : decode cX7_says 29 = .ok (.iaload, 1) := by decide +kernel
theorem dX7_says_30 : decode cX7_says 30 = .ok (.iconst 1, 1) := by decide +kernel
theorem dX7_says_31 : decode cX7_says 31 = .ok (.if_icmp .ne 10, 3) := by decide +kernel
theorem dX7_says_34 : decode cX7_says 34 = .ok (.aload_n 0, 1) := by decide +kernel
theorem dX7_says_35 : decode cX7_says 35 = .ok (.bipush (-2), 2) := by decide +kernel
theorem dX7_says_37 : decode cX7_says 37 = .ok (.invokevirtual 100, 3) := by decide +kernel
theorem dX7_says_40 : decode cX7_says 40 = .ok (.ireturn, 1) := by decide +kernel
theorem dX7_says_41 : decode cX7_says 41 = .ok (.aload_n 0, 1) := by decide +kernel
theorem dX7_says_42 : decode cX7_says 42 = .ok (.getfield 44, 3) := by decide +kernel
theorem dX7_says_45 : decode cX7_says 45 = .ok (.iload_n 1, 1) := by decide +kernel
theorem dX7_says_46 : decode cX7_says 46 = .ok (.iaload, 1) := by decide +kernel
theorem dX7_says_47 : decode cX7_says 47 = .ok (.ifCond .ne 10, 3) := by decide +kernel
theorem dX7_says_50 : decode cX7_says 50 = .ok (.aload_n 0, 1) := by decide +kernel
theorem dX7_says_51 : decode cX7_says 51 = .ok (.bipush (-3), 2) := by decide +kernel
theorem dX7_says_53 : decode cX7_says 53 = .ok (.invokevirtual 100, 3) := by decide +kernel
theorem dX7_says_56 : decode cX7_says 56 = .ok (.ireturn, 1) := by decide +kernel
theorem dX7_says_57 : decode cX7_says 57 = .ok (.aload_n 0, 1) := by decide +kernel
theorem dX7_says_58 : decode cX7_says 58 = .ok (.getfield 53, 3) := by decide +kernel
theorem dX7_says_61 : decode cX7_says 61 = .ok (.iload_n 1, 1) := by decide +kernel
theorem dX7_says_62 : decode cX7_says 62 = .ok (.iaload, 1) := by decide +kernel
theorem dX7_says_63 : decode cX7_says 63 = .ok (.istore_n 3, 1) := by decide +kernel
theorem dX7_says_64 : decode cX7_says 64 = .ok (.aload_n 0, 1) := by decide +kernel
theorem dX7_says_65 : decode cX7_says 65 = .ok (.getfield 29, 3) := by decide +kernel
theorem dX7_says_68 : decode cX7_says 68 = .ok (.iload_n 3, 1) := by decide +kernel
theorem dX7_says_69 : decode cX7_says 69 = .ok (.iaload, 1) := by decide +kernel
theorem dX7_says_70 : decode cX7_says 70 = .ok (.istore 4, 2) := by decide +kernel
theorem dX7_says_72 : decode cX7_says 72 = .ok (.iload_n 2, 1) := by decide +kernel
theorem dX7_says_73 : decode cX7_says 73 = .ok (.iconst 1, 1) := by decide +kernel
theorem dX7_says_74 : decode cX7_says 74 = .ok (.if_icmp .ne 9, 3) := by decide +kernel
theorem dX7_says_77 : decode cX7_says 77 = .ok (.iload 4, 2) := by decide +kernel
theorem dX7_says_79 : decode cX7_says 79 = .ok (.iconst 3, 1) := by decide +kernel
theorem dX7_says_80 : decode cX7_says 80 = .ok (.if_icmp .eq 26, 3) := by decide +kernel
theorem dX7_says_83 : decode cX7_says 83 = .ok (.iload_n 2, 1) := by decide +kernel
theorem dX7_says_84 : decode cX7_says 84 = .ok (.iconst 2, 1) := by decide +kernel
theorem dX7_says_85 : decode cX7_says 85 = .ok (.if_icmp .ne 9, 3) := by decide +kernel
theorem dX7_says_88 : decode cX7_says 88 = .ok (.iload 4, 2) := by decide +kernel
theorem dX7_says_90 : decode cX7_says 90 = .ok (.iconst 5, 1) := by decide +kernel
theorem dX7_says_91 : decode cX7_says 91 = .ok (.if_icmp .eq 15, 3) := by decide +kernel
theorem dX7_says_94 : decode cX7_says 94 = .ok (.iload_n 2, 1) := by decide +kernel
theorem dX7_says_95 : decode cX7_says 95 = .ok (.iconst 4, 1) := by decide +kernel
theorem dX7_says_96 : decode cX7_says 96 = .ok (.if_icmp .ne 14, 3) := by decide +kernel
theorem dX7_says_99 : decode cX7_says 99 = .ok (.iload 4, 2) := by decide +kernel
theorem dX7_says_101 : decode cX7_says 101 = .ok (.bipush 6, 2) := by decide +kernel
theorem dX7_says_103 : decode cX7_says 103 = .ok (.if_icmp .ne 7, 3) := by decide +kernel
theorem dX7_says_106 : decode cX7_says 106 = .ok (.iconst 1, 1) := by decide +kernel
theorem dX7_says_107 : decode cX7_says 107 = .ok (.goto 4, 3) := by decide +kernel
theorem dX7_says_110 : decode cX7_says 110 = .ok (.iconst 0, 1) := by decide +kernel
theorem dX7_says_111 : decode cX7_says 111 = .ok (.istore 5, 2) := by decide +kernel
theorem dX7_says_113 : decode cX7_says 113 = .ok (.iload_n 2, 1) := by decide +kernel
theorem dX7_says_114 : decode cX7_says 114 = .ok (.ifCond .eq 21, 3) := by decide +kernel
theorem dX7_says_117 : decode cX7_says 117 = .ok (.iload_n 2, 1) := by decide +kernel
theorem dX7_says_118 : decode cX7_says 118 = .ok (.iload 4, 2) := by decide +kernel
theorem dX7_says_120 : decode cX7_says 120 = .ok (.if_icmp .eq 15, 3) := by decide +kernel
theorem dX7_says_123 : decode cX7_says 123 = .ok (.iload 5, 2) := by decide +kernel
theorem dX7_says_125 : decode cX7_says 125 = .ok (.ifCond .ne 10, 3) := by decide +kernel
theorem dX7_says_128 : decode cX7_says 128 = .ok (.aload_n 0, 1) := by decide +kernel
theorem dX7_says_129 : decode cX7_says 129 = .ok (.bipush (-2), 2) := by decide +kernel
theorem dX7_says_131 : decode cX7_says 131 = .ok (.invokevirtual 100, 3) := by decide +kernel
theorem dX7_says_134 : decode cX7_says 134 = .ok (.ireturn, 1) := by decide +kernel
theorem dX7_says_135 : decode cX7_says 135 = .ok (.iload_n 2, 1) := by decide +kernel
theorem dX7_says_136 : decode cX7_says 136 = .ok (.tableswitch 71 0 6 #[44, 71, 71, 51, 71, 58, 61], 44) := by decide +kernel
theorem dX7_says_180 : decode cX7_says 180 = .ok (.aload_n 0, 1) := by decide +kernel
theorem dX7_says_181 : decode cX7_says 181 = .ok (.getfield 35, 3) := by decide +kernel
theorem dX7_says_184 : decode cX7_says 184 = .ok (.iload_n 3, 1) := by decide +kernel
theorem dX7_says_185 : decode cX7_says 185 = .ok (.iaload, 1) := by decide +kernel
theorem dX7_says_186 : decode cX7_says 186 = .ok (.ireturn, 1) := by decide +kernel
theorem dX7_says_187 : decode cX7_says 187 = .ok (.aload_n 0, 1) := by decide +kernel
theorem dX7_says_188 : decode cX7_says 188 = .ok (.getfield 32, 3) := by decide +kernel
theorem dX7_says_191 : decode cX7_says 191 = .ok (.iload_n 3, 1) := by decide +kernel
theorem dX7_says_192 : decode cX7_says 192 = .ok (.iaload, 1) := by decide +kernel
theorem dX7_says_193 : decode cX7_says 193 = .ok (.ireturn, 1) := by decide +kernel
theorem dX7_says_194 : decode cX7_says 194 = .ok (.bipush 100, 2) := by decide +kernel
theorem dX7_says_196 : decode cX7_says 196 = .ok (.ireturn, 1) := by decide +kernel
theorem dX7_says_197 : decode cX7_says 197 = .ok (.bipush 50, 2) := by decide +kernel
theorem dX7_says_199 : decode cX7_says 199 = .ok (.aload_n 0, 1) := by decide +kernel
theorem dX7_says_200 : decode cX7_says 200 = .ok (.getfield 32, 3) := by decide +kernel
theorem dX7_says_203 : decode cX7_says 203 = .ok (.iload_n 3, 1) := by decide +kernel
theorem dX7_says_204 : decode cX7_says 204 = .ok (.iaload, 1) := by decide +kernel
theorem dX7_says_205 : decode cX7_says 205 = .ok (.iadd, 1) := by decide +kernel
theorem dX7_says_206 : decode cX7_says 206 = .ok (.ireturn, 1) := by decide +kernel
theorem dX7_says_207 : decode cX7_says 207 = .ok (.aload_n 0, 1) := by decide +kernel
theorem dX7_says_208 : decode cX7_says 208 = .ok (.iload_n 3, 1) := by decide +kernel
theorem dX7_says_209 : decode cX7_says 209 = .ok (.iconst 0, 1) := by decide +kernel
theorem dX7_says_210 : decode cX7_says 210 = .ok (.aload_n 0, 1) := by decide +kernel
theorem dX7_says_211 : decode cX7_says 211 = .ok (.getfield 35, 3) := by decide +kernel
theorem dX7_says_214 : decode cX7_says 214 = .ok (.iload_n 3, 1) := by decide +kernel
theorem dX7_says_215 : decode cX7_says 215 = .ok (.iaload, 1) := by decide +kernel
theorem dX7_says_216 : decode cX7_says 216 = .ok (.aload_n 0, 1) := by decide +kernel
theorem dX7_says_217 : decode cX7_says 217 = .ok (.getfield 7, 3) := by decide +kernel
theorem dX7_says_220 : decode cX7_says 220 = .ok (.invokevirtual 104, 3) := by decide +kernel
theorem dX7_says_223 : decode cX7_says 223 = .ok (.ireturn, 1) := by decide +kernel
theorem dX7_wanted_0 : decode cX7_wanted 0 = .ok (.aload_n 0, 1) := by decide +kernel
theorem dX7_wanted_1 : decode cX7_wanted 1 = .ok (.iload_n 1, 1) := by decide +kernel
theorem dX7_wanted_2 : decode cX7_wanted 2 = .ok (.invokevirtual 97, 3) := by decide +kernel
theorem dX7_wanted_5 : decode cX7_wanted 5 = .ok (.ifCond .ne 7, 3) := by decide +kernel
theorem dX7_wanted_8 : decode cX7_wanted 8 = .ok (.iconst (-1), 1) := by decide +kernel
theorem dX7_wanted_9 : decode cX7_wanted 9 = .ok (.goto 33, 3) := by decide +kernel
theorem dX7_wanted_12 : decode cX7_wanted 12 = .ok (.aload_n 0, 1) := by decide +kernel
theorem dX7_wanted_13 : decode cX7_wanted 13 = .ok (.getfield 44, 3) := by decide +kernel
theorem dX7_wanted_16 : decode cX7_wanted 16 = .ok (.iload_n 1, 1) := by decide +kernel
theorem dX7_wanted_17 : decode cX7_wanted 17 = .ok (.iaload, 1) := by decide +kernel
theorem dX7_wanted_18 : decode cX7_wanted 18 = .ok (.iconst 2, 1) := by decide +kernel
theorem dX7_wanted_19 : decode cX7_wanted 19 = .ok (.if_icmp .ne 8, 3) := by decide +kernel
theorem dX7_wanted_22 : decode cX7_wanted 22 = .ok (.bipush (-2), 2) := by decide +kernel
theorem dX7_wanted_24 : decode cX7_wanted 24 = .ok (.goto 18, 3) := by decide +kernel
theorem dX7_wanted_27 : decode cX7_wanted 27 = .ok (.aload_n 0, 1) := by decide +kernel
theorem dX7_wanted_28 : decode cX7_wanted 28 = .ok (.getfield 44, 3) := by decide +kernel
theorem dX7_wanted_31 : decode cX7_wanted 31 = .ok (.iload_n 1, 1) := by decide +kernel
theorem dX7_wanted_32 : decode cX7_wanted 32 = .ok (.iaload, 1) := by decide +kernel
theorem dX7_wanted_33 : decode cX7_wanted 33 = .ok (.ifCond .ne 8, 3) := by decide +kernel
theorem dX7_wanted_36 : decode cX7_wanted 36 = .ok (.bipush (-3), 2) := by decide +kernel
theorem dX7_wanted_38 : decode cX7_wanted 38 = .ok (.goto 4, 3) := by decide +kernel
theorem dX7_wanted_41 : decode cX7_wanted 41 = .ok (.iconst 0, 1) := by decide +kernel
theorem dX7_wanted_42 : decode cX7_wanted 42 = .ok (.ireturn, 1) := by decide +kernel
theorem dX7_adds_0 : decode cX7_adds 0 = .ok (.aload_n 0, 1) := by decide +kernel
theorem dX7_adds_1 : decode cX7_adds 1 = .ok (.getfield 29, 3) := by decide +kernel
theorem dX7_adds_4 : decode cX7_adds 4 = .ok (.aload_n 0, 1) := by decide +kernel
theorem dX7_adds_5 : decode cX7_adds 5 = .ok (.getfield 90, 3) := by decide +kernel
theorem dX7_adds_8 : decode cX7_adds 8 = .ok (.iload_n 1, 1) := by decide +kernel
theorem dX7_adds_9 : decode cX7_adds 9 = .ok (.iastore, 1) := by decide +kernel
theorem dX7_adds_10 : decode cX7_adds 10 = .ok (.aload_n 0, 1) := by decide +kernel
theorem dX7_adds_11 : decode cX7_adds 11 = .ok (.getfield 35, 3) := by decide +kernel
theorem dX7_adds_14 : decode cX7_adds 14 = .ok (.aload_n 0, 1) := by decide +kernel
theorem dX7_adds_15 : decode cX7_adds 15 = .ok (.getfield 90, 3) := by decide +kernel
theorem dX7_adds_18 : decode cX7_adds 18 = .ok (.iload_n 2, 1) := by decide +kernel
theorem dX7_adds_19 : decode cX7_adds 19 = .ok (.iastore, 1) := by decide +kernel
theorem dX7_adds_20 : decode cX7_adds 20 = .ok (.aload_n 0, 1) := by decide +kernel
theorem dX7_adds_21 : decode cX7_adds 21 = .ok (.getfield 32, 3) := by decide +kernel
theorem dX7_adds_24 : decode cX7_adds 24 = .ok (.aload_n 0, 1) := by decide +kernel
theorem dX7_adds_25 : decode cX7_adds 25 = .ok (.getfield 90, 3) := by decide +kernel
theorem dX7_adds_28 : decode cX7_adds 28 = .ok (.iload_n 3, 1) := by decide +kernel
theorem dX7_adds_29 : decode cX7_adds 29 = .ok (.iastore, 1) := by decide +kernel
theorem dX7_adds_30 : decode cX7_adds 30 = .ok (.iconst 0, 1) := by decide +kernel
theorem dX7_adds_31 : decode cX7_adds 31 = .ok (.istore 4, 2) := by decide +kernel
theorem dX7_adds_33 : decode cX7_adds 33 = .ok (.iload 4, 2) := by decide +kernel
theorem dX7_adds_35 : decode cX7_adds 35 = .ok (.bipush 12, 2) := by decide +kernel
theorem dX7_adds_37 : decode cX7_adds 37 = .ok (.if_icmp .ge 25, 3) := by decide +kernel
theorem dX7_adds_40 : decode cX7_adds 40 = .ok (.aload_n 0, 1) := by decide +kernel
theorem dX7_adds_41 : decode cX7_adds 41 = .ok (.getfield 38, 3) := by decide +kernel
theorem dX7_adds_44 : decode cX7_adds 44 = .ok (.bipush 12, 2) := by decide +kernel
theorem dX7_adds_46 : decode cX7_adds 46 = .ok (.aload_n 0, 1) := by decide +kernel
theorem dX7_adds_47 : decode cX7_adds 47 = .ok (.getfield 90, 3) := by decide +kernel
theorem dX7_adds_50 : decode cX7_adds 50 = .ok (.imul, 1) := by decide +kernel
theorem dX7_adds_51 : decode cX7_adds 51 = .ok (.iload 4, 2) := by decide +kernel
theorem dX7_adds_53 : decode cX7_adds 53 = .ok (.iadd, 1) := by decide +kernel
theorem dX7_adds_54 : decode cX7_adds 54 = .ok (.iconst 0, 1) := by decide +kernel
theorem dX7_adds_55 : decode cX7_adds 55 = .ok (.iastore, 1) := by decide +kernel
theorem dX7_adds_56 : decode cX7_adds 56 = .ok (.iinc 4 1, 3) := by decide +kernel
theorem dX7_adds_59 : decode cX7_adds 59 = .ok (.goto (-26), 3) := by decide +kernel
theorem dX7_adds_62 : decode cX7_adds 62 = .ok (.aload_n 0, 1) := by decide +kernel
theorem dX7_adds_63 : decode cX7_adds 63 = .ok (.dup, 1) := by decide +kernel
theorem dX7_adds_64 : decode cX7_adds 64 = .ok (.getfield 90, 3) := by decide +kernel
theorem dX7_adds_67 : decode cX7_adds 67 = .ok (.dup_x1, 1) := by decide +kernel
theorem dX7_adds_68 : decode cX7_adds 68 = .ok (.iconst 1, 1) := by decide +kernel
theorem dX7_adds_69 : decode cX7_adds 69 = .ok (.iadd, 1) := by decide +kernel
theorem dX7_adds_70 : decode cX7_adds 70 = .ok (.putfield 90, 3) := by decide +kernel
theorem dX7_adds_73 : decode cX7_adds 73 = .ok (.ireturn, 1) := by decide +kernel
theorem dX7_biscuit_0 : decode cX7_biscuit 0 = .ok (.iload_n 1, 1) := by decide +kernel
theorem dX7_biscuit_1 : decode cX7_biscuit 1 = .ok (.ifCond .lt 9, 3) := by decide +kernel
theorem dX7_biscuit_4 : decode cX7_biscuit 4 = .ok (.iload_n 1, 1) := by decide +kernel
theorem dX7_biscuit_5 : decode cX7_biscuit 5 = .ok (.bipush 6, 2) := by decide +kernel
theorem dX7_biscuit_7 : decode cX7_biscuit 7 = .ok (.if_icmp .le 9, 3) := by decide +kernel
theorem dX7_biscuit_10 : decode cX7_biscuit 10 = .ok (.aload_n 0, 1) := by decide +kernel
theorem dX7_biscuit_11 : decode cX7_biscuit 11 = .ok (.iconst (-1), 1) := by decide +kernel
theorem dX7_biscuit_12 : decode cX7_biscuit 12 = .ok (.invokevirtual 100, 3) := by decide +kernel
theorem dX7_biscuit_15 : decode cX7_biscuit 15 = .ok (.ireturn, 1) := by decide +kernel
theorem dX7_biscuit_16 : decode cX7_biscuit 16 = .ok (.iload_n 2, 1) := by decide +kernel
theorem dX7_biscuit_17 : decode cX7_biscuit 17 = .ok (.iconst 1, 1) := by decide +kernel
theorem dX7_biscuit_18 : decode cX7_biscuit 18 = .ok (.if_icmp .lt 19, 3) := by decide +kernel
theorem dX7_biscuit_21 : decode cX7_biscuit 21 = .ok (.iload_n 2, 1) := by decide +kernel
theorem dX7_biscuit_22 : decode cX7_biscuit 22 = .ok (.bipush 12, 2) := by decide +kernel
theorem dX7_biscuit_24 : decode cX7_biscuit 24 = .ok (.if_icmp .gt 13, 3) := by decide +kernel
theorem dX7_biscuit_27 : decode cX7_biscuit 27 = .ok (.iload_n 3, 1) := by decide +kernel
theorem dX7_biscuit_28 : decode cX7_biscuit 28 = .ok (.ifCond .lt 9, 3) := by decide +kernel
theorem dX7_biscuit_31 : decode cX7_biscuit 31 = .ok (.iload_n 3, 1) := by decide +kernel
theorem dX7_biscuit_32 : decode cX7_biscuit 32 = .ok (.bipush 9, 2) := by decide +kernel
theorem dX7_biscuit_34 : decode cX7_biscuit 34 = .ok (.if_icmp .le 10, 3) := by decide +kernel
theorem dX7_biscuit_37 : decode cX7_biscuit 37 = .ok (.aload_n 0, 1) := by decide +kernel
theorem dX7_biscuit_38 : decode cX7_biscuit 38 = .ok (.bipush (-6), 2) := by decide +kernel
theorem dX7_biscuit_40 : decode cX7_biscuit 40 = .ok (.invokevirtual 100, 3) := by decide +kernel
theorem dX7_biscuit_43 : decode cX7_biscuit 43 = .ok (.ireturn, 1) := by decide +kernel
theorem dX7_biscuit_44 : decode cX7_biscuit 44 = .ok (.aload_n 0, 1) := by decide +kernel
theorem dX7_biscuit_45 : decode cX7_biscuit 45 = .ok (.getfield 90, 3) := by decide +kernel
theorem dX7_biscuit_48 : decode cX7_biscuit 48 = .ok (.bipush 6, 2) := by decide +kernel
theorem dX7_biscuit_50 : decode cX7_biscuit 50 = .ok (.if_icmp .ne 12, 3) := by decide +kernel
theorem dX7_biscuit_53 : decode cX7_biscuit 53 = .ok (.aload_n 0, 1) := by decide +kernel
theorem dX7_biscuit_54 : decode cX7_biscuit 54 = .ok (.bipush (-7), 2) := by decide +kernel
theorem dX7_biscuit_56 : decode cX7_biscuit 56 = .ok (.invokevirtual 100, 3) := by decide +kernel
theorem dX7_biscuit_59 : decode cX7_biscuit 59 = .ok (.goto 10, 3) := by decide +kernel
theorem dX7_biscuit_62 : decode cX7_biscuit 62 = .ok (.aload_n 0, 1) := by decide +kernel
theorem dX7_biscuit_63 : decode cX7_biscuit 63 = .ok (.iload_n 1, 1) := by decide +kernel
theorem dX7_biscuit_64 : decode cX7_biscuit 64 = .ok (.iload_n 2, 1) := by decide +kernel
theorem dX7_biscuit_65 : decode cX7_biscuit 65 = .ok (.iload_n 3, 1) := by decide +kernel
theorem dX7_biscuit_66 : decode cX7_biscuit 66 = .ok (.invokevirtual 108, 3) := by decide +kernel
theorem dX7_biscuit_69 : decode cX7_biscuit 69 = .ok (.ireturn, 1) := by decide +kernel
theorem dX7_biscuitOf_0 : decode cX7_biscuitOf 0 = .ok (.aload_n 0, 1) := by decide +kernel
theorem dX7_biscuitOf_1 : decode cX7_biscuitOf 1 = .ok (.iload_n 1, 1) := by decide +kernel
theorem dX7_biscuitOf_2 : decode cX7_biscuitOf 2 = .ok (.invokevirtual 93, 3) := by decide +kernel
theorem dX7_biscuitOf_5 : decode cX7_biscuitOf 5 = .ok (.ifCond .ne 10, 3) := by decide +kernel
theorem dX7_biscuitOf_8 : decode cX7_biscuitOf 8 = .ok (.aload_n 0, 1) := by decide +kernel
theorem dX7_biscuitOf_9 : decode cX7_biscuitOf 9 = .ok (.bipush (-5), 2) := by decide +kernel
theorem dX7_biscuitOf_11 : decode cX7_biscuitOf 11 = .ok (.invokevirtual 100, 3) := by decide +kernel
theorem dX7_biscuitOf_14 : decode cX7_biscuitOf 14 = .ok (.ireturn, 1) := by decide +kernel
theorem dX7_biscuitOf_15 : decode cX7_biscuitOf 15 = .ok (.iload_n 2, 1) := by decide +kernel
theorem dX7_biscuitOf_16 : decode cX7_biscuitOf 16 = .ok (.bipush 10, 2) := by decide +kernel
theorem dX7_biscuitOf_18 : decode cX7_biscuitOf 18 = .ok (.if_icmp .lt 30, 3) := by decide +kernel
theorem dX7_biscuitOf_21 : decode cX7_biscuitOf 21 = .ok (.aload_n 0, 1) := by decide +kernel
theorem dX7_biscuitOf_22 : decode cX7_biscuitOf 22 = .ok (.iload_n 1, 1) := by decide +kernel
theorem dX7_biscuitOf_23 : decode cX7_biscuitOf 23 = .ok (.iload_n 2, 1) := by decide +kernel
theorem dX7_biscuitOf_24 : decode cX7_biscuitOf 24 = .ok (.bipush 10, 2) := by decide +kernel
theorem dX7_biscuitOf_26 : decode cX7_biscuitOf 26 = .ok (.isub, 1) := by decide +kernel
theorem dX7_biscuitOf_27 : decode cX7_biscuitOf 27 = .ok (.invokevirtual 112, 3) := by decide +kernel
theorem dX7_biscuitOf_30 : decode cX7_biscuitOf 30 = .ok (.ifCond .eq 18, 3) := by decide +kernel
theorem dX7_biscuitOf_33 : decode cX7_biscuitOf 33 = .ok (.aload_n 0, 1) := by decide +kernel
theorem dX7_biscuitOf_34 : decode cX7_biscuitOf 34 = .ok (.getfield 38, 3) := by decide +kernel
theorem dX7_biscuitOf_37 : decode cX7_biscuitOf 37 = .ok (.bipush 12, 2) := by decide +kernel
theorem dX7_biscuitOf_39 : decode cX7_biscuitOf 39 = .ok (.iload_n 1, 1) := by decide +kernel
theorem dX7_biscuitOf_40 : decode cX7_biscuitOf 40 = .ok (.imul, 1) := by decide +kernel
theorem dX7_biscuitOf_41 : decode cX7_biscuitOf 41 = .ok (.iload_n 2, 1) := by decide +kernel
theorem dX7_biscuitOf_42 : decode cX7_biscuitOf 42 = .ok (.iadd, 1) := by decide +kernel
theorem dX7_biscuitOf_43 : decode cX7_biscuitOf 43 = .ok (.bipush 10, 2) := by decide +kernel
theorem dX7_biscuitOf_45 : decode cX7_biscuitOf 45 = .ok (.isub, 1) := by decide +kernel
theorem dX7_biscuitOf_46 : decode cX7_biscuitOf 46 = .ok (.iaload, 1) := by decide +kernel
theorem dX7_biscuitOf_47 : decode cX7_biscuitOf 47 = .ok (.ireturn, 1) := by decide +kernel
theorem dX7_biscuitOf_48 : decode cX7_biscuitOf 48 = .ok (.iconst 0, 1) := by decide +kernel
theorem dX7_biscuitOf_49 : decode cX7_biscuitOf 49 = .ok (.istore_n 3, 1) := by decide +kernel
theorem dX7_biscuitOf_50 : decode cX7_biscuitOf 50 = .ok (.iload_n 2, 1) := by decide +kernel
theorem dX7_biscuitOf_51 : decode cX7_biscuitOf 51 = .ok (.tableswitch 87 0 3 #[29, 36, 43, 50], 29) := by decide +kernel
theorem dX7_biscuitOf_80 : decode cX7_biscuitOf 80 = .ok (.aload_n 0, 1) := by decide +kernel
theorem dX7_biscuitOf_81 : decode cX7_biscuitOf 81 = .ok (.getfield 29, 3) := by decide +kernel
theorem dX7_biscuitOf_84 : decode cX7_biscuitOf 84 = .ok (.iload_n 1, 1) := by decide +kernel
theorem dX7_biscuitOf_85 : decode cX7_biscuitOf 85 = .ok (.iaload, 1) := by decide +kernel
theorem dX7_biscuitOf_86 : decode cX7_biscuitOf 86 = .ok (.ireturn, 1) := by decide +kernel
theorem dX7_biscuitOf_87 : decode cX7_biscuitOf 87 = .ok (.aload_n 0, 1) := by decide +kernel
theorem dX7_biscuitOf_88 : decode cX7_biscuitOf 88 = .ok (.getfield 35, 3) := by decide +kernel
theorem dX7_biscuitOf_91 : decode cX7_biscuitOf 91 = .ok (.iload_n 1, 1) := by decide +kernel
theorem dX7_biscuitOf_92 : decode cX7_biscuitOf 92 = .ok (.iaload, 1) := by decide +kernel
theorem dX7_biscuitOf_93 : decode cX7_biscuitOf 93 = .ok (.ireturn, 1) := by decide +kernel
theorem dX7_biscuitOf_94 : decode cX7_biscuitOf 94 = .ok (.aload_n 0, 1) := by decide +kernel
theorem dX7_biscuitOf_95 : decode cX7_biscuitOf 95 = .ok (.getfield 32, 3) := by decide +kernel
theorem dX7_biscuitOf_98 : decode cX7_biscuitOf 98 = .ok (.iload_n 1, 1) := by decide +kernel
theorem dX7_biscuitOf_99 : decode cX7_biscuitOf 99 = .ok (.iaload, 1) := by decide +kernel
theorem dX7_biscuitOf_100 : decode cX7_biscuitOf 100 = .ok (.ireturn, 1) := by decide +kernel
theorem dX7_biscuitOf_101 : decode cX7_biscuitOf 101 = .ok (.iconst 0, 1) := by decide +kernel
theorem dX7_biscuitOf_102 : decode cX7_biscuitOf 102 = .ok (.istore 4, 2) := by decide +kernel
theorem dX7_biscuitOf_104 : decode cX7_biscuitOf 104 = .ok (.iload 4, 2) := by decide +kernel
theorem dX7_biscuitOf_106 : decode cX7_biscuitOf 106 = .ok (.aload_n 0, 1) := by decide +kernel
theorem dX7_biscuitOf_107 : decode cX7_biscuitOf 107 = .ok (.getfield 35, 3) := by decide +kernel
theorem dX7_biscuitOf_110 : decode cX7_biscuitOf 110 = .ok (.iload_n 1, 1) := by decide +kernel
theorem dX7_biscuitOf_111 : decode cX7_biscuitOf 111 = .ok (.iaload, 1) := by decide +kernel
theorem dX7_biscuitOf_112 : decode cX7_biscuitOf 112 = .ok (.if_icmp .ge 24, 3) := by decide +kernel
theorem dX7_biscuitOf_115 : decode cX7_biscuitOf 115 = .ok (.iload_n 3, 1) := by decide +kernel
theorem dX7_biscuitOf_116 : decode cX7_biscuitOf 116 = .ok (.aload_n 0, 1) := by decide +kernel
theorem dX7_biscuitOf_117 : decode cX7_biscuitOf 117 = .ok (.getfield 38, 3) := by decide +kernel
theorem dX7_biscuitOf_120 : decode cX7_biscuitOf 120 = .ok (.bipush 12, 2) := by decide +kernel
theorem dX7_biscuitOf_122 : decode cX7_biscuitOf 122 = .ok (.iload_n 1, 1) := by decide +kernel
theorem dX7_biscuitOf_123 : decode cX7_biscuitOf 123 = .ok (.imul, 1) := by decide +kernel
theorem dX7_biscuitOf_124 : decode cX7_biscuitOf 124 = .ok (.iload 4, 2) := by decide +kernel
theorem dX7_biscuitOf_126 : decode cX7_biscuitOf 126 = .ok (.iadd, 1) := by decide +kernel
theorem dX7_biscuitOf_127 : decode cX7_biscuitOf 127 = .ok (.iaload, 1) := by decide +kernel
theorem dX7_biscuitOf_128 : decode cX7_biscuitOf 128 = .ok (.iadd, 1) := by decide +kernel
theorem dX7_biscuitOf_129 : decode cX7_biscuitOf 129 = .ok (.istore_n 3, 1) := by decide +kernel
theorem dX7_biscuitOf_130 : decode cX7_biscuitOf 130 = .ok (.iinc 4 1, 3) := by decide +kernel
theorem dX7_biscuitOf_133 : decode cX7_biscuitOf 133 = .ok (.goto (-29), 3) := by decide +kernel
theorem dX7_biscuitOf_136 : decode cX7_biscuitOf 136 = .ok (.iload_n 3, 1) := by decide +kernel
theorem dX7_biscuitOf_137 : decode cX7_biscuitOf 137 = .ok (.ireturn, 1) := by decide +kernel
theorem dX7_biscuitOf_138 : decode cX7_biscuitOf 138 = .ok (.aload_n 0, 1) := by decide +kernel
theorem dX7_biscuitOf_139 : decode cX7_biscuitOf 139 = .ok (.bipush (-5), 2) := by decide +kernel
theorem dX7_biscuitOf_141 : decode cX7_biscuitOf 141 = .ok (.invokevirtual 100, 3) := by decide +kernel
theorem dX7_biscuitOf_144 : decode cX7_biscuitOf 144 = .ok (.ireturn, 1) := by decide +kernel
theorem dX7_wet_0 : decode cX7_wet 0 = .ok (.aload_n 0, 1) := by decide +kernel
theorem dX7_wet_1 : decode cX7_wet 1 = .ok (.iload_n 1, 1) := by decide +kernel
theorem dX7_wet_2 : decode cX7_wet 2 = .ok (.iload_n 2, 1) := by decide +kernel
theorem dX7_wet_3 : decode cX7_wet 3 = .ok (.invokevirtual 112, 3) := by decide +kernel
theorem dX7_wet_6 : decode cX7_wet 6 = .ok (.ifCond .ne 9, 3) := by decide +kernel
theorem dX7_wet_9 : decode cX7_wet 9 = .ok (.aload_n 0, 1) := by decide +kernel
theorem dX7_wet_10 : decode cX7_wet 10 = .ok (.iconst (-1), 1) := by decide +kernel
theorem dX7_wet_11 : decode cX7_wet 11 = .ok (.invokevirtual 100, 3) := by decide +kernel
theorem dX7_wet_14 : decode cX7_wet 14 = .ok (.ireturn, 1) := by decide +kernel
theorem dX7_wet_15 : decode cX7_wet 15 = .ok (.iload_n 3, 1) := by decide +kernel
theorem dX7_wet_16 : decode cX7_wet 16 = .ok (.ifCond .lt 9, 3) := by decide +kernel
theorem dX7_wet_19 : decode cX7_wet 19 = .ok (.iload_n 3, 1) := by decide +kernel
theorem dX7_wet_20 : decode cX7_wet 20 = .ok (.bipush 99, 2) := by decide +kernel
theorem dX7_wet_22 : decode cX7_wet 22 = .ok (.if_icmp .le 10, 3) := by decide +kernel
theorem dX7_wet_25 : decode cX7_wet 25 = .ok (.aload_n 0, 1) := by decide +kernel
theorem dX7_wet_26 : decode cX7_wet 26 = .ok (.bipush (-6), 2) := by decide +kernel
theorem dX7_wet_28 : decode cX7_wet 28 = .ok (.invokevirtual 100, 3) := by decide +kernel
theorem dX7_wet_31 : decode cX7_wet 31 = .ok (.ireturn, 1) := by decide +kernel
theorem dX7_wet_32 : decode cX7_wet 32 = .ok (.aload_n 0, 1) := by decide +kernel
theorem dX7_wet_33 : decode cX7_wet 33 = .ok (.getfield 38, 3) := by decide +kernel
theorem dX7_wet_36 : decode cX7_wet 36 = .ok (.bipush 12, 2) := by decide +kernel
theorem dX7_wet_38 : decode cX7_wet 38 = .ok (.iload_n 1, 1) := by decide +kernel
theorem dX7_wet_39 : decode cX7_wet 39 = .ok (.imul, 1) := by decide +kernel
theorem dX7_wet_40 : decode cX7_wet 40 = .ok (.iload_n 2, 1) := by decide +kernel
theorem dX7_wet_41 : decode cX7_wet 41 = .ok (.iadd, 1) := by decide +kernel
theorem dX7_wet_42 : decode cX7_wet 42 = .ok (.iaload, 1) := by decide +kernel
theorem dX7_wet_43 : decode cX7_wet 43 = .ok (.istore 4, 2) := by decide +kernel
theorem dX7_wet_45 : decode cX7_wet 45 = .ok (.aload_n 0, 1) := by decide +kernel
theorem dX7_wet_46 : decode cX7_wet 46 = .ok (.getfield 38, 3) := by decide +kernel
theorem dX7_wet_49 : decode cX7_wet 49 = .ok (.bipush 12, 2) := by decide +kernel
theorem dX7_wet_51 : decode cX7_wet 51 = .ok (.iload_n 1, 1) := by decide +kernel
theorem dX7_wet_52 : decode cX7_wet 52 = .ok (.imul, 1) := by decide +kernel
theorem dX7_wet_53 : decode cX7_wet 53 = .ok (.iload_n 2, 1) := by decide +kernel
theorem dX7_wet_54 : decode cX7_wet 54 = .ok (.iadd, 1) := by decide +kernel
theorem dX7_wet_55 : decode cX7_wet 55 = .ok (.iload_n 3, 1) := by decide +kernel
theorem dX7_wet_56 : decode cX7_wet 56 = .ok (.iastore, 1) := by decide +kernel
theorem dX7_wet_57 : decode cX7_wet 57 = .ok (.iload 4, 2) := by decide +kernel
theorem dX7_wet_59 : decode cX7_wet 59 = .ok (.ireturn, 1) := by decide +kernel
theorem dX7_ask_0 : decode cX7_ask 0 = .ok (.iload_n 1, 1) := by decide +kernel
theorem dX7_ask_1 : decode cX7_ask 1 = .ok (.ifCond .ne 26, 3) := by decide +kernel
theorem dX7_ask_4 : decode cX7_ask 4 = .ok (.iload_n 2, 1) := by decide +kernel
theorem dX7_ask_5 : decode cX7_ask 5 = .ok (.ifCond .lt 22, 3) := by decide +kernel
theorem dX7_ask_8 : decode cX7_ask 8 = .ok (.iload_n 2, 1) := by decide +kernel
theorem dX7_ask_9 : decode cX7_ask 9 = .ok (.bipush 99, 2) := by decide +kernel
theorem dX7_ask_11 : decode cX7_ask 11 = .ok (.if_icmp .gt 16, 3) := by decide +kernel
theorem dX7_ask_14 : decode cX7_ask 14 = .ok (.aload_n 0, 1) := by decide +kernel
theorem dX7_ask_15 : decode cX7_ask 15 = .ok (.getfield 7, 3) := by decide +kernel
theorem dX7_ask_18 : decode cX7_ask 18 = .ok (.istore_n 3, 1) := by decide +kernel
theorem dX7_ask_19 : decode cX7_ask 19 = .ok (.aload_n 0, 1) := by decide +kernel
theorem dX7_ask_20 : decode cX7_ask 20 = .ok (.iload_n 2, 1) := by decide +kernel
theorem dX7_ask_21 : decode cX7_ask 21 = .ok (.putfield 7, 3) := by decide +kernel
theorem dX7_ask_24 : decode cX7_ask 24 = .ok (.goto 68, 3) := by decide +kernel
theorem dX7_ask_27 : decode cX7_ask 27 = .ok (.iload_n 1, 1) := by decide +kernel
theorem dX7_ask_28 : decode cX7_ask 28 = .ok (.iconst 1, 1) := by decide +kernel
theorem dX7_ask_29 : decode cX7_ask 29 = .ok (.if_icmp .ne 27, 3) := by decide +kernel
theorem dX7_ask_32 : decode cX7_ask 32 = .ok (.iload_n 2, 1) := by decide +kernel
theorem dX7_ask_33 : decode cX7_ask 33 = .ok (.iconst 1, 1) := by decide +kernel
theorem dX7_ask_34 : decode cX7_ask 34 = .ok (.if_icmp .lt 22, 3) := by decide +kernel
theorem dX7_ask_37 : decode cX7_ask 37 = .ok (.iload_n 2, 1) := by decide +kernel
theorem dX7_ask_38 : decode cX7_ask 38 = .ok (.bipush 99, 2) := by decide +kernel
theorem dX7_ask_40 : decode cX7_ask 40 = .ok (.if_icmp .gt 16, 3) := by decide +kernel
theorem dX7_ask_43 : decode cX7_ask 43 = .ok (.aload_n 0, 1) := by decide +kernel
theorem dX7_ask_44 : decode cX7_ask 44 = .ok (.getfield 13, 3) := by decide +kernel
theorem dX7_ask_47 : decode cX7_ask 47 = .ok (.istore_n 3, 1) := by decide +kernel
theorem dX7_ask_48 : decode cX7_ask 48 = .ok (.aload_n 0, 1) := by decide +kernel
theorem dX7_ask_49 : decode cX7_ask 49 = .ok (.iload_n 2, 1) := by decide +kernel
theorem dX7_ask_50 : decode cX7_ask 50 = .ok (.putfield 13, 3) := by decide +kernel
theorem dX7_ask_53 : decode cX7_ask 53 = .ok (.goto 39, 3) := by decide +kernel
theorem dX7_ask_56 : decode cX7_ask 56 = .ok (.iload_n 1, 1) := by decide +kernel
theorem dX7_ask_57 : decode cX7_ask 57 = .ok (.iconst 2, 1) := by decide +kernel
theorem dX7_ask_58 : decode cX7_ask 58 = .ok (.if_icmp .ne 27, 3) := by decide +kernel
theorem dX7_ask_61 : decode cX7_ask 61 = .ok (.iload_n 2, 1) := by decide +kernel
theorem dX7_ask_62 : decode cX7_ask 62 = .ok (.ifCond .lt 23, 3) := by decide +kernel
theorem dX7_ask_65 : decode cX7_ask 65 = .ok (.iload_n 2, 1) := by decide +kernel
theorem dX7_ask_66 : decode cX7_ask 66 = .ok (.sipush 9999, 3) := by decide +kernel
theorem dX7_ask_69 : decode cX7_ask 69 = .ok (.if_icmp .gt 16, 3) := by decide +kernel
theorem dX7_ask_72 : decode cX7_ask 72 = .ok (.aload_n 0, 1) := by decide +kernel
theorem dX7_ask_73 : decode cX7_ask 73 = .ok (.getfield 16, 3) := by decide +kernel
theorem dX7_ask_76 : decode cX7_ask 76 = .ok (.istore_n 3, 1) := by decide +kernel
theorem dX7_ask_77 : decode cX7_ask 77 = .ok (.aload_n 0, 1) := by decide +kernel
theorem dX7_ask_78 : decode cX7_ask 78 = .ok (.iload_n 2, 1) := by decide +kernel
theorem dX7_ask_79 : decode cX7_ask 79 = .ok (.putfield 16, 3) := by decide +kernel
theorem dX7_ask_82 : decode cX7_ask 82 = .ok (.goto 10, 3) := by decide +kernel
theorem dX7_ask_85 : decode cX7_ask 85 = .ok (.aload_n 0, 1) := by decide +kernel
theorem dX7_ask_86 : decode cX7_ask 86 = .ok (.bipush (-6), 2) := by decide +kernel
theorem dX7_ask_88 : decode cX7_ask 88 = .ok (.invokevirtual 100, 3) := by decide +kernel
theorem dX7_ask_91 : decode cX7_ask 91 = .ok (.ireturn, 1) := by decide +kernel
theorem dX7_ask_92 : decode cX7_ask 92 = .ok (.iload_n 3, 1) := by decide +kernel
theorem dX7_ask_93 : decode cX7_ask 93 = .ok (.ireturn, 1) := by decide +kernel
theorem dX7_worthOf_0 : decode cX7_worthOf 0 = .ok (.iload_n 1, 1) := by decide +kernel
theorem dX7_worthOf_1 : decode cX7_worthOf 1 = .ok (.ifCond .lt 19, 3) := by decide +kernel
theorem dX7_worthOf_4 : decode cX7_worthOf 4 = .ok (.iload_n 1, 1) := by decide +kernel
theorem dX7_worthOf_5 : decode cX7_worthOf 5 = .ok (.bipush 9, 2) := by decide +kernel
theorem dX7_worthOf_7 : decode cX7_worthOf 7 = .ok (.if_icmp .gt 13, 3) := by decide +kernel
theorem dX7_worthOf_10 : decode cX7_worthOf 10 = .ok (.iload_n 2, 1) := by decide +kernel
theorem dX7_worthOf_11 : decode cX7_worthOf 11 = .ok (.ifCond .lt 9, 3) := by decide +kernel
theorem dX7_worthOf_14 : decode cX7_worthOf 14 = .ok (.iload_n 2, 1) := by decide +kernel
theorem dX7_worthOf_15 : decode cX7_worthOf 15 = .ok (.bipush 99, 2) := by decide +kernel
theorem dX7_worthOf_17 : decode cX7_worthOf 17 = .ok (.if_icmp .le 10, 3) := by decide +kernel
theorem dX7_worthOf_20 : decode cX7_worthOf 20 = .ok (.aload_n 0, 1) := by decide +kernel
theorem dX7_worthOf_21 : decode cX7_worthOf 21 = .ok (.bipush (-6), 2) := by decide +kernel
theorem dX7_worthOf_23 : decode cX7_worthOf 23 = .ok (.invokevirtual 100, 3) := by decide +kernel
theorem dX7_worthOf_26 : decode cX7_worthOf 26 = .ok (.ireturn, 1) := by decide +kernel
theorem dX7_worthOf_27 : decode cX7_worthOf 27 = .ok (.aload_n 0, 1) := by decide +kernel
theorem dX7_worthOf_28 : decode cX7_worthOf 28 = .ok (.getfield 41, 3) := by decide +kernel
theorem dX7_worthOf_31 : decode cX7_worthOf 31 = .ok (.iload_n 1, 1) := by decide +kernel
theorem dX7_worthOf_32 : decode cX7_worthOf 32 = .ok (.iaload, 1) := by decide +kernel
theorem dX7_worthOf_33 : decode cX7_worthOf 33 = .ok (.istore_n 3, 1) := by decide +kernel
theorem dX7_worthOf_34 : decode cX7_worthOf 34 = .ok (.aload_n 0, 1) := by decide +kernel
theorem dX7_worthOf_35 : decode cX7_worthOf 35 = .ok (.getfield 41, 3) := by decide +kernel
theorem dX7_worthOf_38 : decode cX7_worthOf 38 = .ok (.iload_n 1, 1) := by decide +kernel
theorem dX7_worthOf_39 : decode cX7_worthOf 39 = .ok (.iload_n 2, 1) := by decide +kernel
theorem dX7_worthOf_40 : decode cX7_worthOf 40 = .ok (.iastore, 1) := by decide +kernel
theorem dX7_worthOf_41 : decode cX7_worthOf 41 = .ok (.iload_n 3, 1) := by decide +kernel
theorem dX7_worthOf_42 : decode cX7_worthOf 42 = .ok (.ireturn, 1) := by decide +kernel
theorem dX7_wrong_0 : decode cX7_wrong 0 = .ok (.aload_n 0, 1) := by decide +kernel
theorem dX7_wrong_1 : decode cX7_wrong 1 = .ok (.iload_n 1, 1) := by decide +kernel
theorem dX7_wrong_2 : decode cX7_wrong 2 = .ok (.putfield 116, 3) := by decide +kernel
theorem dX7_wrong_5 : decode cX7_wrong 5 = .ok (.iconst 0, 1) := by decide +kernel
theorem dX7_wrong_6 : decode cX7_wrong 6 = .ok (.ireturn, 1) := by decide +kernel
theorem dX7_isWordAt_0 : decode cX7_isWordAt 0 = .ok (.iconst 0, 1) := by decide +kernel
theorem dX7_isWordAt_1 : decode cX7_isWordAt 1 = .ok (.istore_n 2, 1) := by decide +kernel
theorem dX7_isWordAt_2 : decode cX7_isWordAt 2 = .ok (.iconst 0, 1) := by decide +kernel
theorem dX7_isWordAt_3 : decode cX7_isWordAt 3 = .ok (.istore_n 3, 1) := by decide +kernel
theorem dX7_isWordAt_4 : decode cX7_isWordAt 4 = .ok (.iload_n 3, 1) := by decide +kernel
theorem dX7_isWordAt_5 : decode cX7_isWordAt 5 = .ok (.iload_n 1, 1) := by decide +kernel
theorem dX7_isWordAt_6 : decode cX7_isWordAt 6 = .ok (.if_icmp .ge 26, 3) := by decide +kernel
theorem dX7_isWordAt_9 : decode cX7_isWordAt 9 = .ok (.iload_n 3, 1) := by decide +kernel
theorem dX7_isWordAt_10 : decode cX7_isWordAt 10 = .ok (.aload_n 0, 1) := by decide +kernel
theorem dX7_isWordAt_11 : decode cX7_isWordAt 11 = .ok (.getfield 63, 3) := by decide +kernel
theorem dX7_isWordAt_14 : decode cX7_isWordAt 14 = .ok (.iload_n 2, 1) := by decide +kernel
theorem dX7_isWordAt_15 : decode cX7_isWordAt 15 = .ok (.iaload, 1) := by decide +kernel
theorem dX7_isWordAt_16 : decode cX7_isWordAt 16 = .ok (.ifCond .ne 7, 3) := by decide +kernel
theorem dX7_isWordAt_19 : decode cX7_isWordAt 19 = .ok (.iconst 1, 1) := by decide +kernel
theorem dX7_isWordAt_20 : decode cX7_isWordAt 20 = .ok (.goto 4, 3) := by decide +kernel
theorem dX7_isWordAt_23 : decode cX7_isWordAt 23 = .ok (.iconst 0, 1) := by decide +kernel
theorem dX7_isWordAt_24 : decode cX7_isWordAt 24 = .ok (.iadd, 1) := by decide +kernel
theorem dX7_isWordAt_25 : decode cX7_isWordAt 25 = .ok (.istore_n 3, 1) := by decide +kernel
theorem dX7_isWordAt_26 : decode cX7_isWordAt 26 = .ok (.iinc 2 1, 3) := by decide +kernel
theorem dX7_isWordAt_29 : decode cX7_isWordAt 29 = .ok (.goto (-25), 3) := by decide +kernel
theorem dX7_isWordAt_32 : decode cX7_isWordAt 32 = .ok (.aload_n 0, 1) := by decide +kernel
theorem dX7_isWordAt_33 : decode cX7_isWordAt 33 = .ok (.getfield 119, 3) := by decide +kernel
theorem dX7_isWordAt_36 : decode cX7_isWordAt 36 = .ok (.istore_n 3, 1) := by decide +kernel
theorem dX7_isWordAt_37 : decode cX7_isWordAt 37 = .ok (.aload_n 0, 1) := by decide +kernel
theorem dX7_isWordAt_38 : decode cX7_isWordAt 38 = .ok (.getfield 63, 3) := by decide +kernel
theorem dX7_isWordAt_41 : decode cX7_isWordAt 41 = .ok (.iload_n 2, 1) := by decide +kernel
theorem dX7_isWordAt_42 : decode cX7_isWordAt 42 = .ok (.iaload, 1) := by decide +kernel
theorem dX7_isWordAt_43 : decode cX7_isWordAt 43 = .ok (.bipush 32, 2) := by decide +kernel
theorem dX7_isWordAt_45 : decode cX7_isWordAt 45 = .ok (.if_icmp .le 41, 3) := by decide +kernel
theorem dX7_isWordAt_48 : decode cX7_isWordAt 48 = .ok (.iload_n 3, 1) := by decide +kernel
theorem dX7_isWordAt_49 : decode cX7_isWordAt 49 = .ok (.aload_n 0, 1) := by decide +kernel
theorem dX7_isWordAt_50 : decode cX7_isWordAt 50 = .ok (.getfield 122, 3) := by decide +kernel
theorem dX7_isWordAt_53 : decode cX7_isWordAt 53 = .ok (.if_icmp .ge 33, 3) := by decide +kernel
theorem dX7_isWordAt_56 : decode cX7_isWordAt 56 = .ok (.aload_n 0, 1) := by decide +kernel
theorem dX7_isWordAt_57 : decode cX7_isWordAt 57 = .ok (.getfield 56, 3) := by decide +kernel
theorem dX7_isWordAt_60 : decode cX7_isWordAt 60 = .ok (.aload_n 0, 1) := by decide +kernel
theorem dX7_isWordAt_61 : decode cX7_isWordAt 61 = .ok (.getfield 125, 3) := by decide +kernel
theorem dX7_isWordAt_64 : decode cX7_isWordAt 64 = .ok (.iload_n 3, 1) := by decide +kernel
theorem dX7_isWordAt_65 : decode cX7_isWordAt 65 = .ok (.iadd, 1) := by decide +kernel
theorem dX7_isWordAt_66 : decode cX7_isWordAt 66 = .ok (.laload, 1) := by decide +kernel
theorem dX7_isWordAt_67 : decode cX7_isWordAt 67 = .ok (.l2i, 1) := by decide +kernel
theorem dX7_isWordAt_68 : decode cX7_isWordAt 68 = .ok (.aload_n 0, 1) := by decide +kernel
theorem dX7_isWordAt_69 : decode cX7_isWordAt 69 = .ok (.getfield 63, 3) := by decide +kernel
theorem dX7_isWordAt_72 : decode cX7_isWordAt 72 = .ok (.iload_n 2, 1) := by decide +kernel
theorem dX7_isWordAt_73 : decode cX7_isWordAt 73 = .ok (.iaload, 1) := by decide +kernel
theorem dX7_isWordAt_74 : decode cX7_isWordAt 74 = .ok (.if_icmp .ne 12, 3) := by decide +kernel
theorem dX7_isWordAt_77 : decode cX7_isWordAt 77 = .ok (.iinc 3 1, 3) := by decide +kernel
theorem dX7_isWordAt_80 : decode cX7_isWordAt 80 = .ok (.iinc 2 1, 3) := by decide +kernel
theorem dX7_isWordAt_83 : decode cX7_isWordAt 83 = .ok (.goto (-46), 3) := by decide +kernel
theorem dX7_isWordAt_86 : decode cX7_isWordAt 86 = .ok (.aload_n 0, 1) := by decide +kernel
theorem dX7_isWordAt_87 : decode cX7_isWordAt 87 = .ok (.getfield 63, 3) := by decide +kernel
theorem dX7_isWordAt_90 : decode cX7_isWordAt 90 = .ok (.iload_n 2, 1) := by decide +kernel
theorem dX7_isWordAt_91 : decode cX7_isWordAt 91 = .ok (.iaload, 1) := by decide +kernel
theorem dX7_isWordAt_92 : decode cX7_isWordAt 92 = .ok (.bipush 32, 2) := by decide +kernel
theorem dX7_isWordAt_94 : decode cX7_isWordAt 94 = .ok (.if_icmp .gt 7, 3) := by decide +kernel
theorem dX7_isWordAt_97 : decode cX7_isWordAt 97 = .ok (.iconst 1, 1) := by decide +kernel
theorem dX7_isWordAt_98 : decode cX7_isWordAt 98 = .ok (.goto 4, 3) := by decide +kernel
theorem dX7_isWordAt_101 : decode cX7_isWordAt 101 = .ok (.iconst 0, 1) := by decide +kernel
theorem dX7_isWordAt_102 : decode cX7_isWordAt 102 = .ok (.ireturn, 1) := by decide +kernel
theorem dX7_word_0 : decode cX7_word 0 = .ok (.iconst 0, 1) := by decide +kernel
theorem dX7_word_1 : decode cX7_word 1 = .ok (.istore_n 1, 1) := by decide +kernel
theorem dX7_word_2 : decode cX7_word 2 = .ok (.aload_n 0, 1) := by decide +kernel
theorem dX7_word_3 : decode cX7_word 3 = .ok (.getfield 119, 3) := by decide +kernel
theorem dX7_word_6 : decode cX7_word 6 = .ok (.istore_n 2, 1) := by decide +kernel
theorem dX7_word_7 : decode cX7_word 7 = .ok (.iconst 0, 1) := by decide +kernel
theorem dX7_word_8 : decode cX7_word 8 = .ok (.istore_n 3, 1) := by decide +kernel
theorem dX7_word_9 : decode cX7_word 9 = .ok (.iload_n 3, 1) := by decide +kernel
theorem dX7_word_10 : decode cX7_word 10 = .ok (.bipush 7, 2) := by decide +kernel
theorem dX7_word_12 : decode cX7_word 12 = .ok (.if_icmp .ge 118, 3) := by decide +kernel
theorem dX7_word_15 : decode cX7_word 15 = .ok (.aload_n 0, 1) := by decide +kernel
theorem dX7_word_16 : decode cX7_word 16 = .ok (.getfield 119, 3) := by decide +kernel
theorem dX7_word_19 : decode cX7_word 19 = .ok (.istore 4, 2) := by decide +kernel
theorem dX7_word_21 : decode cX7_word 21 = .ok (.iload_n 1, 1) := by decide +kernel
theorem dX7_word_22 : decode cX7_word 22 = .ok (.istore 5, 2) := by decide +kernel
theorem dX7_word_24 : decode cX7_word 24 = .ok (.aload_n 0, 1) := by decide +kernel
theorem dX7_word_25 : decode cX7_word 25 = .ok (.getfield 63, 3) := by decide +kernel
theorem dX7_word_28 : decode cX7_word 28 = .ok (.iload 5, 2) := by decide +kernel
theorem dX7_word_30 : decode cX7_word 30 = .ok (.iaload, 1) := by decide +kernel
theorem dX7_word_31 : decode cX7_word 31 = .ok (.ifCond .eq 44, 3) := by decide +kernel
theorem dX7_word_34 : decode cX7_word 34 = .ok (.iload 4, 2) := by decide +kernel
theorem dX7_word_36 : decode cX7_word 36 = .ok (.aload_n 0, 1) := by decide +kernel
theorem dX7_word_37 : decode cX7_word 37 = .ok (.getfield 122, 3) := by decide +kernel
theorem dX7_word_40 : decode cX7_word 40 = .ok (.if_icmp .ge 35, 3) := by decide +kernel
theorem dX7_word_43 : decode cX7_word 43 = .ok (.aload_n 0, 1) := by decide +kernel
theorem dX7_word_44 : decode cX7_word 44 = .ok (.getfield 56, 3) := by decide +kernel
theorem dX7_word_47 : decode cX7_word 47 = .ok (.aload_n 0, 1) := by decide +kernel
theorem dX7_word_48 : decode cX7_word 48 = .ok (.getfield 125, 3) := by decide +kernel
theorem dX7_word_51 : decode cX7_word 51 = .ok (.iload 4, 2) := by decide +kernel
theorem dX7_word_53 : decode cX7_word 53 = .ok (.iadd, 1) := by decide +kernel
theorem dX7_word_54 : decode cX7_word 54 = .ok (.laload, 1) := by decide +kernel
theorem dX7_word_55 : decode cX7_word 55 = .ok (.l2i, 1) := by decide +kernel
theorem dX7_word_56 : decode cX7_word 56 = .ok (.aload_n 0, 1) := by decide +kernel
theorem dX7_word_57 : decode cX7_word 57 = .ok (.getfield 63, 3) := by decide +kernel
theorem dX7_word_60 : decode cX7_word 60 = .ok (.iload 5, 2) := by decide +kernel
theorem dX7_word_62 : decode cX7_word 62 = .ok (.iaload, 1) := by decide +kernel
theorem dX7_word_63 : decode cX7_word 63 = .ok (.if_icmp .ne 12, 3) := by decide +kernel
theorem dX7_word_66 : decode cX7_word 66 = .ok (.iinc 4 1, 3) := by decide +kernel
theorem dX7_word_69 : decode cX7_word 69 = .ok (.iinc 5 1, 3) := by decide +kernel
theorem dX7_word_72 : decode cX7_word 72 = .ok (.goto (-48), 3) := by decide +kernel
theorem dX7_word_75 : decode cX7_word 75 = .ok (.aload_n 0, 1) := by decide +kernel
theorem dX7_word_76 : decode cX7_word 76 = .ok (.getfield 63, 3) := by decide +kernel
theorem dX7_word_79 : decode cX7_word 79 = .ok (.iload 5, 2) := by decide +kernel
theorem dX7_word_81 : decode cX7_word 81 = .ok (.iaload, 1) := by decide +kernel
theorem dX7_word_82 : decode cX7_word 82 = .ok (.ifCond .ne 11, 3) := by decide +kernel
theorem dX7_word_85 : decode cX7_word 85 = .ok (.aload_n 0, 1) := by decide +kernel
theorem dX7_word_86 : decode cX7_word 86 = .ok (.iload 4, 2) := by decide +kernel
theorem dX7_word_88 : decode cX7_word 88 = .ok (.putfield 119, 3) := by decide +kernel
theorem dX7_word_91 : decode cX7_word 91 = .ok (.iload_n 3, 1) := by decide +kernel
theorem dX7_word_92 : decode cX7_word 92 = .ok (.ireturn, 1) := by decide +kernel
theorem dX7_word_93 : decode cX7_word 93 = .ok (.iload 4, 2) := by decide +kernel
theorem dX7_word_95 : decode cX7_word 95 = .ok (.iload_n 2, 1) := by decide +kernel
theorem dX7_word_96 : decode cX7_word 96 = .ok (.if_icmp .le 8, 3) := by decide +kernel
theorem dX7_word_99 : decode cX7_word 99 = .ok (.iload 4, 2) := by decide +kernel
theorem dX7_word_101 : decode cX7_word 101 = .ok (.goto 4, 3) := by decide +kernel
theorem dX7_word_104 : decode cX7_word 104 = .ok (.iload_n 2, 1) := by decide +kernel
theorem dX7_word_105 : decode cX7_word 105 = .ok (.istore_n 2, 1) := by decide +kernel
theorem dX7_word_106 : decode cX7_word 106 = .ok (.aload_n 0, 1) := by decide +kernel
theorem dX7_word_107 : decode cX7_word 107 = .ok (.getfield 63, 3) := by decide +kernel
theorem dX7_word_110 : decode cX7_word 110 = .ok (.iload_n 1, 1) := by decide +kernel
theorem dX7_word_111 : decode cX7_word 111 = .ok (.iaload, 1) := by decide +kernel
theorem dX7_word_112 : decode cX7_word 112 = .ok (.ifCond .eq 9, 3) := by decide +kernel
theorem dX7_word_115 : decode cX7_word 115 = .ok (.iinc 1 1, 3) := by decide +kernel
theorem dX7_word_118 : decode cX7_word 118 = .ok (.goto (-12), 3) := by decide +kernel
theorem dX7_word_121 : decode cX7_word 121 = .ok (.iinc 1 1, 3) := by decide +kernel
theorem dX7_word_124 : decode cX7_word 124 = .ok (.iinc 3 1, 3) := by decide +kernel
theorem dX7_word_127 : decode cX7_word 127 = .ok (.goto (-118), 3) := by decide +kernel
theorem dX7_word_130 : decode cX7_word 130 = .ok (.aload_n 0, 1) := by decide +kernel
theorem dX7_word_131 : decode cX7_word 131 = .ok (.iload_n 2, 1) := by decide +kernel
theorem dX7_word_132 : decode cX7_word 132 = .ok (.putfield 116, 3) := by decide +kernel
theorem dX7_word_135 : decode cX7_word 135 = .ok (.iconst (-1), 1) := by decide +kernel
theorem dX7_word_136 : decode cX7_word 136 = .ok (.ireturn, 1) := by decide +kernel
theorem dX7_isDigit_0 : decode cX7_isDigit 0 = .ok (.aload_n 0, 1) := by decide +kernel
theorem dX7_isDigit_1 : decode cX7_isDigit 1 = .ok (.getfield 119, 3) := by decide +kernel
theorem dX7_isDigit_4 : decode cX7_isDigit 4 = .ok (.aload_n 0, 1) := by decide +kernel
theorem dX7_isDigit_5 : decode cX7_isDigit 5 = .ok (.getfield 122, 3) := by decide +kernel
theorem dX7_isDigit_8 : decode cX7_isDigit 8 = .ok (.if_icmp .ge 47, 3) := by decide +kernel
theorem dX7_isDigit_11 : decode cX7_isDigit 11 = .ok (.aload_n 0, 1) := by decide +kernel
theorem dX7_isDigit_12 : decode cX7_isDigit 12 = .ok (.getfield 56, 3) := by decide +kernel
theorem dX7_isDigit_15 : decode cX7_isDigit 15 = .ok (.aload_n 0, 1) := by decide +kernel
theorem dX7_isDigit_16 : decode cX7_isDigit 16 = .ok (.getfield 125, 3) := by decide +kernel
theorem dX7_isDigit_19 : decode cX7_isDigit 19 = .ok (.aload_n 0, 1) := by decide +kernel
theorem dX7_isDigit_20 : decode cX7_isDigit 20 = .ok (.getfield 119, 3) := by decide +kernel
theorem dX7_isDigit_23 : decode cX7_isDigit 23 = .ok (.iadd, 1) := by decide +kernel
theorem dX7_isDigit_24 : decode cX7_isDigit 24 = .ok (.laload, 1) := by decide +kernel
theorem dX7_isDigit_25 : decode cX7_isDigit 25 = .ok (.l2i, 1) := by decide +kernel
theorem dX7_isDigit_26 : decode cX7_isDigit 26 = .ok (.bipush 48, 2) := by decide +kernel
theorem dX7_isDigit_28 : decode cX7_isDigit 28 = .ok (.if_icmp .lt 27, 3) := by decide +kernel
theorem dX7_isDigit_31 : decode cX7_isDigit 31 = .ok (.aload_n 0, 1) := by decide +kernel
theorem dX7_isDigit_32 : decode cX7_isDigit 32 = .ok (.getfield 56, 3) := by decide +kernel
theorem dX7_isDigit_35 : decode cX7_isDigit 35 = .ok (.aload_n 0, 1) := by decide +kernel
theorem dX7_isDigit_36 : decode cX7_isDigit 36 = .ok (.getfield 125, 3) := by decide +kernel
theorem dX7_isDigit_39 : decode cX7_isDigit 39 = .ok (.aload_n 0, 1) := by decide +kernel
theorem dX7_isDigit_40 : decode cX7_isDigit 40 = .ok (.getfield 119, 3) := by decide +kernel
theorem dX7_isDigit_43 : decode cX7_isDigit 43 = .ok (.iadd, 1) := by decide +kernel
theorem dX7_isDigit_44 : decode cX7_isDigit 44 = .ok (.laload, 1) := by decide +kernel
theorem dX7_isDigit_45 : decode cX7_isDigit 45 = .ok (.l2i, 1) := by decide +kernel
theorem dX7_isDigit_46 : decode cX7_isDigit 46 = .ok (.bipush 57, 2) := by decide +kernel
theorem dX7_isDigit_48 : decode cX7_isDigit 48 = .ok (.if_icmp .gt 7, 3) := by decide +kernel
theorem dX7_isDigit_51 : decode cX7_isDigit 51 = .ok (.iconst 1, 1) := by decide +kernel
theorem dX7_isDigit_52 : decode cX7_isDigit 52 = .ok (.goto 4, 3) := by decide +kernel
theorem dX7_isDigit_55 : decode cX7_isDigit 55 = .ok (.iconst 0, 1) := by decide +kernel
theorem dX7_isDigit_56 : decode cX7_isDigit 56 = .ok (.ireturn, 1) := by decide +kernel
theorem dX7_number_0 : decode cX7_number 0 = .ok (.aload_n 0, 1) := by decide +kernel
theorem dX7_number_1 : decode cX7_number 1 = .ok (.iconst 0, 1) := by decide +kernel
theorem dX7_number_2 : decode cX7_number 2 = .ok (.putfield 128, 3) := by decide +kernel
theorem dX7_number_5 : decode cX7_number 5 = .ok (.aload_n 0, 1) := by decide +kernel
theorem dX7_number_6 : decode cX7_number 6 = .ok (.invokevirtual 131, 3) := by decide +kernel
theorem dX7_number_9 : decode cX7_number 9 = .ok (.ifCond .ne 12, 3) := by decide +kernel
theorem dX7_number_12 : decode cX7_number 12 = .ok (.aload_n 0, 1) := by decide +kernel
theorem dX7_number_13 : decode cX7_number 13 = .ok (.aload_n 0, 1) := by decide +kernel
theorem dX7_number_14 : decode cX7_number 14 = .ok (.getfield 119, 3) := by decide +kernel
theorem dX7_number_17 : decode cX7_number 17 = .ok (.invokevirtual 135, 3) := by decide +kernel
theorem dX7_number_20 : decode cX7_number 20 = .ok (.ireturn, 1) := by decide +kernel
theorem dX7_number_21 : decode cX7_number 21 = .ok (.iconst 0, 1) := by decide +kernel
theorem dX7_number_22 : decode cX7_number 22 = .ok (.istore_n 1, 1) := by decide +kernel
theorem dX7_number_23 : decode cX7_number 23 = .ok (.iload_n 1, 1) := by decide +kernel
theorem dX7_number_24 : decode cX7_number 24 = .ok (.iconst 4, 1) := by decide +kernel
theorem dX7_number_25 : decode cX7_number 25 = .ok (.if_icmp .ge 56, 3) := by decide +kernel
theorem dX7_number_28 : decode cX7_number 28 = .ok (.aload_n 0, 1) := by decide +kernel
theorem dX7_number_29 : decode cX7_number 29 = .ok (.invokevirtual 131, 3) := by decide +kernel
theorem dX7_number_32 : decode cX7_number 32 = .ok (.ifCond .eq 49, 3) := by decide +kernel
theorem dX7_number_35 : decode cX7_number 35 = .ok (.aload_n 0, 1) := by decide +kernel
theorem dX7_number_36 : decode cX7_number 36 = .ok (.bipush 10, 2) := by decide +kernel
theorem dX7_number_38 : decode cX7_number 38 = .ok (.aload_n 0, 1) := by decide +kernel
theorem dX7_number_39 : decode cX7_number 39 = .ok (.getfield 128, 3) := by decide +kernel
theorem dX7_number_42 : decode cX7_number 42 = .ok (.imul, 1) := by decide +kernel
theorem dX7_number_43 : decode cX7_number 43 = .ok (.aload_n 0, 1) := by decide +kernel
theorem dX7_number_44 : decode cX7_number 44 = .ok (.getfield 56, 3) := by decide +kernel
theorem dX7_number_47 : decode cX7_number 47 = .ok (.aload_n 0, 1) := by decide +kernel
theorem dX7_number_48 : decode cX7_number 48 = .ok (.getfield 125, 3) := by decide +kernel
theorem dX7_number_51 : decode cX7_number 51 = .ok (.aload_n 0, 1) := by decide +kernel
theorem dX7_number_52 : decode cX7_number 52 = .ok (.getfield 119, 3) := by decide +kernel
theorem dX7_number_55 : decode cX7_number 55 = .ok (.iadd, 1) := by decide +kernel
theorem dX7_number_56 : decode cX7_number 56 = .ok (.laload, 1) := by decide +kernel
theorem dX7_number_57 : decode cX7_number 57 = .ok (.l2i, 1) := by decide +kernel
theorem dX7_number_58 : decode cX7_number 58 = .ok (.iadd, 1) := by decide +kernel
theorem dX7_number_59 : decode cX7_number 59 = .ok (.bipush 48, 2) := by decide +kernel
theorem dX7_number_61 : decode cX7_number 61 = .ok (.isub, 1) := by decide +kernel
theorem dX7_number_62 : decode cX7_number 62 = .ok (.putfield 128, 3) := by decide +kernel
theorem dX7_number_65 : decode cX7_number 65 = .ok (.aload_n 0, 1) := by decide +kernel
theorem dX7_number_66 : decode cX7_number 66 = .ok (.dup, 1) := by decide +kernel
theorem dX7_number_67 : decode cX7_number 67 = .ok (.getfield 119, 3) := by decide +kernel
theorem dX7_number_70 : decode cX7_number 70 = .ok (.iconst 1, 1) := by decide +kernel
theorem dX7_number_71 : decode cX7_number 71 = .ok (.iadd, 1) := by decide +kernel
theorem dX7_number_72 : decode cX7_number 72 = .ok (.putfield 119, 3) := by decide +kernel
theorem dX7_number_75 : decode cX7_number 75 = .ok (.iinc 1 1, 3) := by decide +kernel
theorem dX7_number_78 : decode cX7_number 78 = .ok (.goto (-55), 3) := by decide +kernel
theorem dX7_number_81 : decode cX7_number 81 = .ok (.iconst 1, 1) := by decide +kernel
theorem dX7_number_82 : decode cX7_number 82 = .ok (.ireturn, 1) := by decide +kernel
theorem dX7_isSo_0 : decode cX7_isSo 0 = .ok (.iload_n 1, 1) := by decide +kernel
theorem dX7_isSo_1 : decode cX7_isSo 1 = .ok (.tableswitch 238 0 5 #[39, 105, 174, 189, 212, 214], 39) := by decide +kernel
theorem dX7_isSo_40 : decode cX7_isSo 40 = .ok (.iload_n 2, 1) := by decide +kernel
theorem dX7_isSo_41 : decode cX7_isSo 41 = .ok (.ifCond .ne 20, 3) := by decide +kernel
theorem dX7_isSo_44 : decode cX7_isSo 44 = .ok (.aload_n 0, 1) := by decide +kernel
theorem dX7_isSo_45 : decode cX7_isSo 45 = .ok (.getfield 128, 3) := by decide +kernel
theorem dX7_isSo_48 : decode cX7_isSo 48 = .ok (.bipush 6, 2) := by decide +kernel
theorem dX7_isSo_50 : decode cX7_isSo 50 = .ok (.if_icmp .gt 7, 3) := by decide +kernel
theorem dX7_isSo_53 : decode cX7_isSo 53 = .ok (.iconst 1, 1) := by decide +kernel
theorem dX7_isSo_54 : decode cX7_isSo 54 = .ok (.goto 51, 3) := by decide +kernel
theorem dX7_isSo_57 : decode cX7_isSo 57 = .ok (.iconst 0, 1) := by decide +kernel
theorem dX7_isSo_58 : decode cX7_isSo 58 = .ok (.goto 47, 3) := by decide +kernel
theorem dX7_isSo_61 : decode cX7_isSo 61 = .ok (.iload_n 2, 1) := by decide +kernel
theorem dX7_isSo_62 : decode cX7_isSo 62 = .ok (.iconst 1, 1) := by decide +kernel
theorem dX7_isSo_63 : decode cX7_isSo 63 = .ok (.if_icmp .ne 28, 3) := by decide +kernel
theorem dX7_isSo_66 : decode cX7_isSo 66 = .ok (.aload_n 0, 1) := by decide +kernel
theorem dX7_isSo_67 : decode cX7_isSo 67 = .ok (.getfield 128, 3) := by decide +kernel
theorem dX7_isSo_70 : decode cX7_isSo 70 = .ok (.iconst 1, 1) := by decide +kernel
theorem dX7_isSo_71 : decode cX7_isSo 71 = .ok (.if_icmp .lt 16, 3) := by decide +kernel
theorem dX7_isSo_74 : decode cX7_isSo 74 = .ok (.aload_n 0, 1) := by decide +kernel
theorem dX7_isSo_75 : decode cX7_isSo 75 = .ok (.getfield 128, 3) := by decide +kernel
theorem dX7_isSo_78 : decode cX7_isSo 78 = .ok (.bipush 12, 2) := by decide +kernel
theorem dX7_isSo_80 : decode cX7_isSo 80 = .ok (.if_icmp .gt 7, 3) := by decide +kernel
theorem dX7_isSo_83 : decode cX7_isSo 83 = .ok (.iconst 1, 1) := by decide +kernel
theorem dX7_isSo_84 : decode cX7_isSo 84 = .ok (.goto 21, 3) := by decide +kernel
theorem dX7_isSo_87 : decode cX7_isSo 87 = .ok (.iconst 0, 1) := by decide +kernel
theorem dX7_isSo_88 : decode cX7_isSo 88 = .ok (.goto 17, 3) := by decide +kernel
theorem dX7_isSo_91 : decode cX7_isSo 91 = .ok (.aload_n 0, 1) := by decide +kernel
theorem dX7_isSo_92 : decode cX7_isSo 92 = .ok (.getfield 128, 3) := by decide +kernel
theorem dX7_isSo_95 : decode cX7_isSo 95 = .ok (.bipush 9, 2) := by decide +kernel
theorem dX7_isSo_97 : decode cX7_isSo 97 = .ok (.if_icmp .gt 7, 3) := by decide +kernel
theorem dX7_isSo_100 : decode cX7_isSo 100 = .ok (.iconst 1, 1) := by decide +kernel
theorem dX7_isSo_101 : decode cX7_isSo 101 = .ok (.goto 4, 3) := by decide +kernel
theorem dX7_isSo_104 : decode cX7_isSo 104 = .ok (.iconst 0, 1) := by decide +kernel
theorem dX7_isSo_105 : decode cX7_isSo 105 = .ok (.ireturn, 1) := by decide +kernel
theorem dX7_isSo_106 : decode cX7_isSo 106 = .ok (.iload_n 2, 1) := by decide +kernel
theorem dX7_isSo_107 : decode cX7_isSo 107 = .ok (.ifCond .ne 22, 3) := by decide +kernel
theorem dX7_isSo_110 : decode cX7_isSo 110 = .ok (.aload_n 0, 1) := by decide +kernel
theorem dX7_isSo_111 : decode cX7_isSo 111 = .ok (.getfield 128, 3) := by decide +kernel
theorem dX7_isSo_114 : decode cX7_isSo 114 = .ok (.aload_n 0, 1) := by decide +kernel
theorem dX7_isSo_115 : decode cX7_isSo 115 = .ok (.getfield 90, 3) := by decide +kernel
theorem dX7_isSo_118 : decode cX7_isSo 118 = .ok (.if_icmp .ge 7, 3) := by decide +kernel
theorem dX7_isSo_121 : decode cX7_isSo 121 = .ok (.iconst 1, 1) := by decide +kernel
theorem dX7_isSo_122 : decode cX7_isSo 122 = .ok (.goto 52, 3) := by decide +kernel
theorem dX7_isSo_125 : decode cX7_isSo 125 = .ok (.iconst 0, 1) := by decide +kernel
theorem dX7_isSo_126 : decode cX7_isSo 126 = .ok (.goto 48, 3) := by decide +kernel
theorem dX7_isSo_129 : decode cX7_isSo 129 = .ok (.iload_n 2, 1) := by decide +kernel
theorem dX7_isSo_130 : decode cX7_isSo 130 = .ok (.iconst 1, 1) := by decide +kernel
theorem dX7_isSo_131 : decode cX7_isSo 131 = .ok (.if_icmp .ne 29, 3) := by decide +kernel
theorem dX7_isSo_134 : decode cX7_isSo 134 = .ok (.aload_n 0, 1) := by decide +kernel
theorem dX7_isSo_135 : decode cX7_isSo 135 = .ok (.getfield 128, 3) := by decide +kernel
theorem dX7_isSo_138 : decode cX7_isSo 138 = .ok (.aload_n 0, 1) := by decide +kernel
theorem dX7_isSo_139 : decode cX7_isSo 139 = .ok (.getfield 35, 3) := by decide +kernel
theorem dX7_isSo_142 : decode cX7_isSo 142 = .ok (.aload_n 0, 1) := by decide +kernel
theorem dX7_isSo_143 : decode cX7_isSo 143 = .ok (.getfield 66, 3) := by decide +kernel
theorem dX7_isSo_146 : decode cX7_isSo 146 = .ok (.iconst 0, 1) := by decide +kernel
theorem dX7_isSo_147 : decode cX7_isSo 147 = .ok (.iaload, 1) := by decide +kernel
theorem dX7_isSo_148 : decode cX7_isSo 148 = .ok (.iaload, 1) := by decide +kernel
theorem dX7_isSo_149 : decode cX7_isSo 149 = .ok (.if_icmp .ge 7, 3) := by decide +kernel
theorem dX7_isSo_152 : decode cX7_isSo 152 = .ok (.iconst 1, 1) := by decide +kernel
theorem dX7_isSo_153 : decode cX7_isSo 153 = .ok (.goto 21, 3) := by decide +kernel
theorem dX7_isSo_156 : decode cX7_isSo 156 = .ok (.iconst 0, 1) := by decide +kernel
theorem dX7_isSo_157 : decode cX7_isSo 157 = .ok (.goto 17, 3) := by decide +kernel
theorem dX7_isSo_160 : decode cX7_isSo 160 = .ok (.aload_n 0, 1) := by decide +kernel
theorem dX7_isSo_161 : decode cX7_isSo 161 = .ok (.getfield 128, 3) := by decide +kernel
theorem dX7_isSo_164 : decode cX7_isSo 164 = .ok (.bipush 99, 2) := by decide +kernel
theorem dX7_isSo_166 : decode cX7_isSo 166 = .ok (.if_icmp .gt 7, 3) := by decide +kernel
theorem dX7_isSo_169 : decode cX7_isSo 169 = .ok (.iconst 1, 1) := by decide +kernel
theorem dX7_isSo_170 : decode cX7_isSo 170 = .ok (.goto 4, 3) := by decide +kernel
theorem dX7_isSo_173 : decode cX7_isSo 173 = .ok (.iconst 0, 1) := by decide +kernel
theorem dX7_isSo_174 : decode cX7_isSo 174 = .ok (.ireturn, 1) := by decide +kernel
theorem dX7_isSo_175 : decode cX7_isSo 175 = .ok (.aload_n 0, 1) := by decide +kernel
theorem dX7_isSo_176 : decode cX7_isSo 176 = .ok (.getfield 128, 3) := by decide +kernel
theorem dX7_isSo_179 : decode cX7_isSo 179 = .ok (.bipush 99, 2) := by decide +kernel
theorem dX7_isSo_181 : decode cX7_isSo 181 = .ok (.if_icmp .gt 7, 3) := by decide +kernel
theorem dX7_isSo_184 : decode cX7_isSo 184 = .ok (.iconst 1, 1) := by decide +kernel
theorem dX7_isSo_185 : decode cX7_isSo 185 = .ok (.goto 4, 3) := by decide +kernel
theorem dX7_isSo_188 : decode cX7_isSo 188 = .ok (.iconst 0, 1) := by decide +kernel
theorem dX7_isSo_189 : decode cX7_isSo 189 = .ok (.ireturn, 1) := by decide +kernel
theorem dX7_isSo_190 : decode cX7_isSo 190 = .ok (.aload_n 0, 1) := by decide +kernel
theorem dX7_isSo_191 : decode cX7_isSo 191 = .ok (.getfield 128, 3) := by decide +kernel
theorem dX7_isSo_194 : decode cX7_isSo 194 = .ok (.iconst 1, 1) := by decide +kernel
theorem dX7_isSo_195 : decode cX7_isSo 195 = .ok (.if_icmp .lt 16, 3) := by decide +kernel
theorem dX7_isSo_198 : decode cX7_isSo 198 = .ok (.aload_n 0, 1) := by decide +kernel
theorem dX7_isSo_199 : decode cX7_isSo 199 = .ok (.getfield 128, 3) := by decide +kernel
theorem dX7_isSo_202 : decode cX7_isSo 202 = .ok (.bipush 99, 2) := by decide +kernel
theorem dX7_isSo_204 : decode cX7_isSo 204 = .ok (.if_icmp .gt 7, 3) := by decide +kernel
theorem dX7_isSo_207 : decode cX7_isSo 207 = .ok (.iconst 1, 1) := by decide +kernel
theorem dX7_isSo_208 : decode cX7_isSo 208 = .ok (.goto 4, 3) := by decide +kernel
theorem dX7_isSo_211 : decode cX7_isSo 211 = .ok (.iconst 0, 1) := by decide +kernel
theorem dX7_isSo_212 : decode cX7_isSo 212 = .ok (.ireturn, 1) := by decide +kernel
theorem dX7_isSo_213 : decode cX7_isSo 213 = .ok (.iconst 1, 1) := by decide +kernel
theorem dX7_isSo_214 : decode cX7_isSo 214 = .ok (.ireturn, 1) := by decide +kernel
theorem dX7_isSo_215 : decode cX7_isSo 215 = .ok (.aload_n 0, 1) := by decide +kernel
theorem dX7_isSo_216 : decode cX7_isSo 216 = .ok (.getfield 128, 3) := by decide +kernel
theorem dX7_isSo_219 : decode cX7_isSo 219 = .ok (.iload_n 2, 1) := by decide +kernel
theorem dX7_isSo_220 : decode cX7_isSo 220 = .ok (.ifCond .ne 8, 3) := by decide +kernel
theorem dX7_isSo_223 : decode cX7_isSo 223 = .ok (.bipush 9, 2) := by decide +kernel
theorem dX7_isSo_225 : decode cX7_isSo 225 = .ok (.goto 5, 3) := by decide +kernel
theorem dX7_isSo_228 : decode cX7_isSo 228 = .ok (.bipush 99, 2) := by decide +kernel
theorem dX7_isSo_230 : decode cX7_isSo 230 = .ok (.if_icmp .gt 7, 3) := by decide +kernel
theorem dX7_isSo_233 : decode cX7_isSo 233 = .ok (.iconst 1, 1) := by decide +kernel
theorem dX7_isSo_234 : decode cX7_isSo 234 = .ok (.goto 4, 3) := by decide +kernel
theorem dX7_isSo_237 : decode cX7_isSo 237 = .ok (.iconst 0, 1) := by decide +kernel
theorem dX7_isSo_238 : decode cX7_isSo 238 = .ok (.ireturn, 1) := by decide +kernel
theorem dX7_isSo_239 : decode cX7_isSo 239 = .ok (.iload_n 2, 1) := by decide +kernel
theorem dX7_isSo_240 : decode cX7_isSo 240 = .ok (.ifCond .ne 34, 3) := by decide +kernel
theorem dX7_isSo_243 : decode cX7_isSo 243 = .ok (.aload_n 0, 1) := by decide +kernel
theorem dX7_isSo_244 : decode cX7_isSo 244 = .ok (.getfield 128, 3) := by decide +kernel
theorem dX7_isSo_247 : decode cX7_isSo 247 = .ok (.aload_n 0, 1) := by decide +kernel
theorem dX7_isSo_248 : decode cX7_isSo 248 = .ok (.getfield 90, 3) := by decide +kernel
theorem dX7_isSo_251 : decode cX7_isSo 251 = .ok (.if_icmp .ge 19, 3) := by decide +kernel
theorem dX7_isSo_254 : decode cX7_isSo 254 = .ok (.aload_n 0, 1) := by decide +kernel
theorem dX7_isSo_255 : decode cX7_isSo 255 = .ok (.getfield 35, 3) := by decide +kernel
theorem dX7_isSo_258 : decode cX7_isSo 258 = .ok (.aload_n 0, 1) := by decide +kernel
theorem dX7_isSo_259 : decode cX7_isSo 259 = .ok (.getfield 128, 3) := by decide +kernel
theorem dX7_isSo_262 : decode cX7_isSo 262 = .ok (.iaload, 1) := by decide +kernel
theorem dX7_isSo_263 : decode cX7_isSo 263 = .ok (.ifCond .le 7, 3) := by decide +kernel
theorem dX7_isSo_266 : decode cX7_isSo 266 = .ok (.iconst 1, 1) := by decide +kernel
theorem dX7_isSo_267 : decode cX7_isSo 267 = .ok (.goto 31, 3) := by decide +kernel
theorem dX7_isSo_270 : decode cX7_isSo 270 = .ok (.iconst 0, 1) := by decide +kernel
theorem dX7_isSo_271 : decode cX7_isSo 271 = .ok (.goto 27, 3) := by decide +kernel
theorem dX7_isSo_274 : decode cX7_isSo 274 = .ok (.aload_n 0, 1) := by decide +kernel
theorem dX7_isSo_275 : decode cX7_isSo 275 = .ok (.getfield 128, 3) := by decide +kernel
theorem dX7_isSo_278 : decode cX7_isSo 278 = .ok (.iload_n 2, 1) := by decide +kernel
theorem dX7_isSo_279 : decode cX7_isSo 279 = .ok (.iconst 1, 1) := by decide +kernel
theorem dX7_isSo_280 : decode cX7_isSo 280 = .ok (.if_icmp .ne 8, 3) := by decide +kernel
theorem dX7_isSo_283 : decode cX7_isSo 283 = .ok (.bipush 12, 2) := by decide +kernel
theorem dX7_isSo_285 : decode cX7_isSo 285 = .ok (.goto 5, 3) := by decide +kernel
theorem dX7_isSo_288 : decode cX7_isSo 288 = .ok (.bipush 60, 2) := by decide +kernel
theorem dX7_isSo_290 : decode cX7_isSo 290 = .ok (.if_icmp .gt 7, 3) := by decide +kernel
theorem dX7_isSo_293 : decode cX7_isSo 293 = .ok (.iconst 1, 1) := by decide +kernel
theorem dX7_isSo_294 : decode cX7_isSo 294 = .ok (.goto 4, 3) := by decide +kernel
theorem dX7_isSo_297 : decode cX7_isSo 297 = .ok (.iconst 0, 1) := by decide +kernel
theorem dX7_isSo_298 : decode cX7_isSo 298 = .ok (.ireturn, 1) := by decide +kernel
theorem dX7_item_0 : decode cX7_item 0 = .ok (.aload_n 0, 1) := by decide +kernel
theorem dX7_item_1 : decode cX7_item 1 = .ok (.iconst 0, 1) := by decide +kernel
theorem dX7_item_2 : decode cX7_item 2 = .ok (.invokevirtual 138, 3) := by decide +kernel
theorem dX7_item_5 : decode cX7_item 5 = .ok (.ifCond .eq 21, 3) := by decide +kernel
theorem dX7_item_8 : decode cX7_item 8 = .ok (.aload_n 0, 1) := by decide +kernel
theorem dX7_item_9 : decode cX7_item 9 = .ok (.getfield 90, 3) := by decide +kernel
theorem dX7_item_12 : decode cX7_item 12 = .ok (.bipush 6, 2) := by decide +kernel
theorem dX7_item_14 : decode cX7_item 14 = .ok (.if_icmp .ne 12, 3) := by decide +kernel
theorem dX7_item_17 : decode cX7_item 17 = .ok (.aload_n 0, 1) := by decide +kernel
theorem dX7_item_18 : decode cX7_item 18 = .ok (.aload_n 0, 1) := by decide +kernel
theorem dX7_item_19 : decode cX7_item 19 = .ok (.getfield 119, 3) := by decide +kernel
theorem dX7_item_22 : decode cX7_item 22 = .ok (.invokevirtual 135, 3) := by decide +kernel
theorem dX7_item_25 : decode cX7_item 25 = .ok (.ireturn, 1) := by decide +kernel
theorem dX7_item_26 : decode cX7_item 26 = .ok (.aload_n 0, 1) := by decide +kernel
theorem dX7_item_27 : decode cX7_item 27 = .ok (.invokevirtual 141, 3) := by decide +kernel
theorem dX7_item_30 : decode cX7_item 30 = .ok (.istore_n 1, 1) := by decide +kernel
theorem dX7_item_31 : decode cX7_item 31 = .ok (.iload_n 1, 1) := by decide +kernel
theorem dX7_item_32 : decode cX7_item 32 = .ok (.iconst (-1), 1) := by decide +kernel
theorem dX7_item_33 : decode cX7_item 33 = .ok (.if_icmp .ne 5, 3) := by decide +kernel
theorem dX7_item_36 : decode cX7_item 36 = .ok (.iconst 0, 1) := by decide +kernel
theorem dX7_item_37 : decode cX7_item 37 = .ok (.ireturn, 1) := by decide +kernel
theorem dX7_item_38 : decode cX7_item 38 = .ok (.iload_n 1, 1) := by decide +kernel
theorem dX7_item_39 : decode cX7_item 39 = .ok (.iconst 2, 1) := by decide +kernel
theorem dX7_item_40 : decode cX7_item 40 = .ok (.if_icmp .lt 9, 3) := by decide +kernel
theorem dX7_item_43 : decode cX7_item 43 = .ok (.iload_n 1, 1) := by decide +kernel
theorem dX7_item_44 : decode cX7_item 44 = .ok (.bipush 6, 2) := by decide +kernel
theorem dX7_item_46 : decode cX7_item 46 = .ok (.if_icmp .ne 7, 3) := by decide +kernel
theorem dX7_item_49 : decode cX7_item 49 = .ok (.iconst 3, 1) := by decide +kernel
theorem dX7_item_50 : decode cX7_item 50 = .ok (.goto 13, 3) := by decide +kernel
theorem dX7_item_53 : decode cX7_item 53 = .ok (.iload_n 1, 1) := by decide +kernel
theorem dX7_item_54 : decode cX7_item 54 = .ok (.iconst 5, 1) := by decide +kernel
theorem dX7_item_55 : decode cX7_item 55 = .ok (.if_icmp .ne 7, 3) := by decide +kernel
theorem dX7_item_58 : decode cX7_item 58 = .ok (.iconst 2, 1) := by decide +kernel
theorem dX7_item_59 : decode cX7_item 59 = .ok (.goto 4, 3) := by decide +kernel
theorem dX7_item_62 : decode cX7_item 62 = .ok (.iconst 1, 1) := by decide +kernel
theorem dX7_item_63 : decode cX7_item 63 = .ok (.istore_n 2, 1) := by decide +kernel
theorem dX7_item_64 : decode cX7_item 64 = .ok (.iconst 0, 1) := by decide +kernel
theorem dX7_item_65 : decode cX7_item 65 = .ok (.istore_n 3, 1) := by decide +kernel
theorem dX7_item_66 : decode cX7_item 66 = .ok (.iload_n 3, 1) := by decide +kernel
theorem dX7_item_67 : decode cX7_item 67 = .ok (.iload_n 2, 1) := by decide +kernel
theorem dX7_item_68 : decode cX7_item 68 = .ok (.if_icmp .ge 104, 3) := by decide +kernel
theorem dX7_item_71 : decode cX7_item 71 = .ok (.iload_n 3, 1) := by decide +kernel
theorem dX7_item_72 : decode cX7_item 72 = .ok (.ifCond .le 53, 3) := by decide +kernel
theorem dX7_item_75 : decode cX7_item 75 = .ok (.aload_n 0, 1) := by decide +kernel
theorem dX7_item_76 : decode cX7_item 76 = .ok (.getfield 119, 3) := by decide +kernel
theorem dX7_item_79 : decode cX7_item 79 = .ok (.aload_n 0, 1) := by decide +kernel
theorem dX7_item_80 : decode cX7_item 80 = .ok (.getfield 122, 3) := by decide +kernel
theorem dX7_item_83 : decode cX7_item 83 = .ok (.if_icmp .ge 23, 3) := by decide +kernel
theorem dX7_item_86 : decode cX7_item 86 = .ok (.aload_n 0, 1) := by decide +kernel
theorem dX7_item_87 : decode cX7_item 87 = .ok (.getfield 56, 3) := by decide +kernel
theorem dX7_item_90 : decode cX7_item 90 = .ok (.aload_n 0, 1) := by decide +kernel
theorem dX7_item_91 : decode cX7_item 91 = .ok (.getfield 125, 3) := by decide +kernel
theorem dX7_item_94 : decode cX7_item 94 = .ok (.aload_n 0, 1) := by decide +kernel
theorem dX7_item_95 : decode cX7_item 95 = .ok (.getfield 119, 3) := by decide +kernel
theorem dX7_item_98 : decode cX7_item 98 = .ok (.iadd, 1) := by decide +kernel
theorem dX7_item_99 : decode cX7_item 99 = .ok (.laload, 1) := by decide +kernel
theorem dX7_item_100 : decode cX7_item 100 = .ok (.l2i, 1) := by decide +kernel
theorem dX7_item_101 : decode cX7_item 101 = .ok (.bipush 32, 2) := by decide +kernel
theorem dX7_item_103 : decode cX7_item 103 = .ok (.if_icmp .eq 12, 3) := by decide +kernel
theorem dX7_item_106 : decode cX7_item 106 = .ok (.aload_n 0, 1) := by decide +kernel
theorem dX7_item_107 : decode cX7_item 107 = .ok (.aload_n 0, 1) := by decide +kernel
theorem dX7_item_108 : decode cX7_item 108 = .ok (.getfield 119, 3) := by decide +kernel
theorem dX7_item_111 : decode cX7_item 111 = .ok (.invokevirtual 135, 3) := by decide +kernel
theorem dX7_item_114 : decode cX7_item 114 = .ok (.ireturn, 1) := by decide +kernel
theorem dX7_item_115 : decode cX7_item 115 = .ok (.aload_n 0, 1) := by decide +kernel
theorem dX7_item_116 : decode cX7_item 116 = .ok (.dup, 1) := by decide +kernel
theorem dX7_item_117 : decode cX7_item 117 = .ok (.getfield 119, 3) := by decide +kernel
theorem dX7_item_120 : decode cX7_item 120 = .ok (.iconst 1, 1) := by decide +kernel
theorem dX7_item_121 : decode cX7_item 121 = .ok (.iadd, 1) := by decide +kernel
theorem dX7_item_122 : decode cX7_item 122 = .ok (.putfield 119, 3) := by decide +kernel
theorem dX7_item_125 : decode cX7_item 125 = .ok (.aload_n 0, 1) := by decide +kernel
theorem dX7_item_126 : decode cX7_item 126 = .ok (.getfield 119, 3) := by decide +kernel
theorem dX7_item_129 : decode cX7_item 129 = .ok (.istore 4, 2) := by decide +kernel
theorem dX7_item_131 : decode cX7_item 131 = .ok (.aload_n 0, 1) := by decide +kernel
theorem dX7_item_132 : decode cX7_item 132 = .ok (.invokevirtual 145, 3) := by decide +kernel
theorem dX7_item_135 : decode cX7_item 135 = .ok (.ifCond .ne 5, 3) := by decide +kernel
theorem dX7_item_138 : decode cX7_item 138 = .ok (.iconst 0, 1) := by decide +kernel
theorem dX7_item_139 : decode cX7_item 139 = .ok (.ireturn, 1) := by decide +kernel
theorem dX7_item_140 : decode cX7_item 140 = .ok (.aload_n 0, 1) := by decide +kernel
theorem dX7_item_141 : decode cX7_item 141 = .ok (.iload_n 1, 1) := by decide +kernel
theorem dX7_item_142 : decode cX7_item 142 = .ok (.iload_n 3, 1) := by decide +kernel
theorem dX7_item_143 : decode cX7_item 143 = .ok (.invokevirtual 148, 3) := by decide +kernel
theorem dX7_item_146 : decode cX7_item 146 = .ok (.ifCond .ne 10, 3) := by decide +kernel
theorem dX7_item_149 : decode cX7_item 149 = .ok (.aload_n 0, 1) := by decide +kernel
theorem dX7_item_150 : decode cX7_item 150 = .ok (.iload 4, 2) := by decide +kernel
theorem dX7_item_152 : decode cX7_item 152 = .ok (.invokevirtual 135, 3) := by decide +kernel
theorem dX7_item_155 : decode cX7_item 155 = .ok (.ireturn, 1) := by decide +kernel
theorem dX7_item_156 : decode cX7_item 156 = .ok (.aload_n 0, 1) := by decide +kernel
theorem dX7_item_157 : decode cX7_item 157 = .ok (.getfield 66, 3) := by decide +kernel
theorem dX7_item_160 : decode cX7_item 160 = .ok (.iload_n 3, 1) := by decide +kernel
theorem dX7_item_161 : decode cX7_item 161 = .ok (.aload_n 0, 1) := by decide +kernel
theorem dX7_item_162 : decode cX7_item 162 = .ok (.getfield 128, 3) := by decide +kernel
theorem dX7_item_165 : decode cX7_item 165 = .ok (.iastore, 1) := by decide +kernel
theorem dX7_item_166 : decode cX7_item 166 = .ok (.iinc 3 1, 3) := by decide +kernel
theorem dX7_item_169 : decode cX7_item 169 = .ok (.goto (-103), 3) := by decide +kernel
theorem dX7_item_172 : decode cX7_item 172 = .ok (.iload_n 1, 1) := by decide +kernel
theorem dX7_item_173 : decode cX7_item 173 = .ok (.tableswitch 154 0 5 #[39, 65, 95, 108, 121, 134], 39) := by decide +kernel
theorem dX7_item_212 : decode cX7_item 212 = .ok (.aload_n 0, 1) := by decide +kernel
theorem dX7_item_213 : decode cX7_item 213 = .ok (.aload_n 0, 1) := by decide +kernel
theorem dX7_item_214 : decode cX7_item 214 = .ok (.getfield 66, 3) := by decide +kernel
theorem dX7_item_217 : decode cX7_item 217 = .ok (.iconst 0, 1) := by decide +kernel
theorem dX7_item_218 : decode cX7_item 218 = .ok (.iaload, 1) := by decide +kernel
theorem dX7_item_219 : decode cX7_item 219 = .ok (.aload_n 0, 1) := by decide +kernel
theorem dX7_item_220 : decode cX7_item 220 = .ok (.getfield 66, 3) := by decide +kernel
theorem dX7_item_223 : decode cX7_item 223 = .ok (.iconst 1, 1) := by decide +kernel
theorem dX7_item_224 : decode cX7_item 224 = .ok (.iaload, 1) := by decide +kernel
theorem dX7_item_225 : decode cX7_item 225 = .ok (.aload_n 0, 1) := by decide +kernel
theorem dX7_item_226 : decode cX7_item 226 = .ok (.getfield 66, 3) := by decide +kernel
theorem dX7_item_229 : decode cX7_item 229 = .ok (.iconst 2, 1) := by decide +kernel
theorem dX7_item_230 : decode cX7_item 230 = .ok (.iaload, 1) := by decide +kernel
theorem dX7_item_231 : decode cX7_item 231 = .ok (.invokevirtual 108, 3) := by decide +kernel
theorem dX7_item_234 : decode cX7_item 234 = .ok (.pop, 1) := by decide +kernel
theorem dX7_item_235 : decode cX7_item 235 = .ok (.goto 115, 3) := by decide +kernel
theorem dX7_item_238 : decode cX7_item 238 = .ok (.aload_n 0, 1) := by decide +kernel
theorem dX7_item_239 : decode cX7_item 239 = .ok (.getfield 38, 3) := by decide +kernel
theorem dX7_item_242 : decode cX7_item 242 = .ok (.bipush 12, 2) := by decide +kernel
theorem dX7_item_244 : decode cX7_item 244 = .ok (.aload_n 0, 1) := by decide +kernel
theorem dX7_item_245 : decode cX7_item 245 = .ok (.getfield 66, 3) := by decide +kernel
theorem dX7_item_248 : decode cX7_item 248 = .ok (.iconst 0, 1) := by decide +kernel
theorem dX7_item_249 : decode cX7_item 249 = .ok (.iaload, 1) := by decide +kernel
theorem dX7_item_250 : decode cX7_item 250 = .ok (.imul, 1) := by decide +kernel
theorem dX7_item_251 : decode cX7_item 251 = .ok (.aload_n 0, 1) := by decide +kernel
theorem dX7_item_252 : decode cX7_item 252 = .ok (.getfield 66, 3) := by decide +kernel
theorem dX7_item_255 : decode cX7_item 255 = .ok (.iconst 1, 1) := by decide +kernel
theorem dX7_item_256 : decode cX7_item 256 = .ok (.iaload, 1) := by decide +kernel
theorem dX7_item_257 : decode cX7_item 257 = .ok (.iadd, 1) := by decide +kernel
theorem dX7_item_258 : decode cX7_item 258 = .ok (.aload_n 0, 1) := by decide +kernel
theorem dX7_item_259 : decode cX7_item 259 = .ok (.getfield 66, 3) := by decide +kernel
theorem dX7_item_262 : decode cX7_item 262 = .ok (.iconst 2, 1) := by decide +kernel
theorem dX7_item_263 : decode cX7_item 263 = .ok (.iaload, 1) := by decide +kernel
theorem dX7_item_264 : decode cX7_item 264 = .ok (.iastore, 1) := by decide +kernel
theorem dX7_item_265 : decode cX7_item 265 = .ok (.goto 85, 3) := by decide +kernel
theorem dX7_item_268 : decode cX7_item 268 = .ok (.aload_n 0, 1) := by decide +kernel
theorem dX7_item_269 : decode cX7_item 269 = .ok (.aload_n 0, 1) := by decide +kernel
theorem dX7_item_270 : decode cX7_item 270 = .ok (.getfield 66, 3) := by decide +kernel
theorem dX7_item_273 : decode cX7_item 273 = .ok (.iconst 0, 1) := by decide +kernel
theorem dX7_item_274 : decode cX7_item 274 = .ok (.iaload, 1) := by decide +kernel
theorem dX7_item_275 : decode cX7_item 275 = .ok (.putfield 7, 3) := by decide +kernel
theorem dX7_item_278 : decode cX7_item 278 = .ok (.goto 72, 3) := by decide +kernel
theorem dX7_item_281 : decode cX7_item 281 = .ok (.aload_n 0, 1) := by decide +kernel
theorem dX7_item_282 : decode cX7_item 282 = .ok (.aload_n 0, 1) := by decide +kernel
theorem dX7_item_283 : decode cX7_item 283 = .ok (.getfield 66, 3) := by decide +kernel
theorem dX7_item_286 : decode cX7_item 286 = .ok (.iconst 0, 1) := by decide +kernel
theorem dX7_item_287 : decode cX7_item 287 = .ok (.iaload, 1) := by decide +kernel
theorem dX7_item_288 : decode cX7_item 288 = .ok (.putfield 13, 3) := by decide +kernel
theorem dX7_item_291 : decode cX7_item 291 = .ok (.goto 59, 3) := by decide +kernel
theorem dX7_item_294 : decode cX7_item 294 = .ok (.aload_n 0, 1) := by decide +kernel
theorem dX7_item_295 : decode cX7_item 295 = .ok (.aload_n 0, 1) := by decide +kernel
theorem dX7_item_296 : decode cX7_item 296 = .ok (.getfield 66, 3) := by decide +kernel
theorem dX7_item_299 : decode cX7_item 299 = .ok (.iconst 0, 1) := by decide +kernel
theorem dX7_item_300 : decode cX7_item 300 = .ok (.iaload, 1) := by decide +kernel
theorem dX7_item_301 : decode cX7_item 301 = .ok (.putfield 16, 3) := by decide +kernel
theorem dX7_item_304 : decode cX7_item 304 = .ok (.goto 46, 3) := by decide +kernel
theorem dX7_item_307 : decode cX7_item 307 = .ok (.aload_n 0, 1) := by decide +kernel
theorem dX7_item_308 : decode cX7_item 308 = .ok (.getfield 41, 3) := by decide +kernel
theorem dX7_item_311 : decode cX7_item 311 = .ok (.aload_n 0, 1) := by decide +kernel
theorem dX7_item_312 : decode cX7_item 312 = .ok (.getfield 66, 3) := by decide +kernel
theorem dX7_item_315 : decode cX7_item 315 = .ok (.iconst 0, 1) := by decide +kernel
theorem dX7_item_316 : decode cX7_item 316 = .ok (.iaload, 1) := by decide +kernel
theorem dX7_item_317 : decode cX7_item 317 = .ok (.aload_n 0, 1) := by decide +kernel
theorem dX7_item_318 : decode cX7_item 318 = .ok (.getfield 66, 3) := by decide +kernel
theorem dX7_item_321 : decode cX7_item 321 = .ok (.iconst 1, 1) := by decide +kernel
theorem dX7_item_322 : decode cX7_item 322 = .ok (.iaload, 1) := by decide +kernel
theorem dX7_item_323 : decode cX7_item 323 = .ok (.iastore, 1) := by decide +kernel
theorem dX7_item_324 : decode cX7_item 324 = .ok (.goto 26, 3) := by decide +kernel
theorem dX7_item_327 : decode cX7_item 327 = .ok (.aload_n 0, 1) := by decide +kernel
theorem dX7_item_328 : decode cX7_item 328 = .ok (.aload_n 0, 1) := by decide +kernel
theorem dX7_item_329 : decode cX7_item 329 = .ok (.getfield 66, 3) := by decide +kernel
theorem dX7_item_332 : decode cX7_item 332 = .ok (.iconst 0, 1) := by decide +kernel
theorem dX7_item_333 : decode cX7_item 333 = .ok (.iaload, 1) := by decide +kernel
theorem dX7_item_334 : decode cX7_item 334 = .ok (.aload_n 0, 1) := by decide +kernel
theorem dX7_item_335 : decode cX7_item 335 = .ok (.getfield 66, 3) := by decide +kernel
theorem dX7_item_338 : decode cX7_item 338 = .ok (.iconst 1, 1) := by decide +kernel
theorem dX7_item_339 : decode cX7_item 339 = .ok (.iaload, 1) := by decide +kernel
theorem dX7_item_340 : decode cX7_item 340 = .ok (.aload_n 0, 1) := by decide +kernel
theorem dX7_item_341 : decode cX7_item 341 = .ok (.getfield 66, 3) := by decide +kernel
theorem dX7_item_344 : decode cX7_item 344 = .ok (.iconst 2, 1) := by decide +kernel
theorem dX7_item_345 : decode cX7_item 345 = .ok (.iaload, 1) := by decide +kernel
theorem dX7_item_346 : decode cX7_item 346 = .ok (.invokevirtual 151, 3) := by decide +kernel
theorem dX7_item_349 : decode cX7_item 349 = .ok (.pop, 1) := by decide +kernel
theorem dX7_item_350 : decode cX7_item 350 = .ok (.iconst 1, 1) := by decide +kernel
theorem dX7_item_351 : decode cX7_item 351 = .ok (.ireturn, 1) := by decide +kernel
theorem dX7_carries_0 : decode cX7_carries 0 = .ok (.iconst 0, 1) := by decide +kernel
theorem dX7_carries_1 : decode cX7_carries 1 = .ok (.istore 6, 2) := by decide +kernel
theorem dX7_carries_3 : decode cX7_carries 3 = .ok (.iload 6, 2) := by decide +kernel
theorem dX7_carries_5 : decode cX7_carries 5 = .ok (.iload_n 2, 1) := by decide +kernel
theorem dX7_carries_6 : decode cX7_carries 6 = .ok (.if_icmp .ge 39, 3) := by decide +kernel
theorem dX7_carries_9 : decode cX7_carries 9 = .ok (.iload 5, 2) := by decide +kernel
theorem dX7_carries_11 : decode cX7_carries 11 = .ok (.ifCond .eq 17, 3) := by decide +kernel
theorem dX7_carries_14 : decode cX7_carries 14 = .ok (.aload_n 1, 1) := by decide +kernel
theorem dX7_carries_15 : decode cX7_carries 15 = .ok (.iload 6, 2) := by decide +kernel
theorem dX7_carries_17 : decode cX7_carries 17 = .ok (.aload_n 3, 1) := by decide +kernel
theorem dX7_carries_18 : decode cX7_carries 18 = .ok (.iload 4, 2) := by decide +kernel
theorem dX7_carries_20 : decode cX7_carries 20 = .ok (.iload 6, 2) := by decide +kernel
theorem dX7_carries_22 : decode cX7_carries 22 = .ok (.iadd, 1) := by decide +kernel
theorem dX7_carries_23 : decode cX7_carries 23 = .ok (.iaload, 1) := by decide +kernel
theorem dX7_carries_24 : decode cX7_carries 24 = .ok (.iastore, 1) := by decide +kernel
theorem dX7_carries_25 : decode cX7_carries 25 = .ok (.goto 14, 3) := by decide +kernel
theorem dX7_carries_28 : decode cX7_carries 28 = .ok (.aload_n 3, 1) := by decide +kernel
theorem dX7_carries_29 : decode cX7_carries 29 = .ok (.iload 4, 2) := by decide +kernel
theorem dX7_carries_31 : decode cX7_carries 31 = .ok (.iload 6, 2) := by decide +kernel
theorem dX7_carries_33 : decode cX7_carries 33 = .ok (.iadd, 1) := by decide +kernel
theorem dX7_carries_34 : decode cX7_carries 34 = .ok (.aload_n 1, 1) := by decide +kernel
theorem dX7_carries_35 : decode cX7_carries 35 = .ok (.iload 6, 2) := by decide +kernel
theorem dX7_carries_37 : decode cX7_carries 37 = .ok (.iaload, 1) := by decide +kernel
theorem dX7_carries_38 : decode cX7_carries 38 = .ok (.iastore, 1) := by decide +kernel
theorem dX7_carries_39 : decode cX7_carries 39 = .ok (.iinc 6 1, 3) := by decide +kernel
theorem dX7_carries_42 : decode cX7_carries 42 = .ok (.goto (-39), 3) := by decide +kernel
theorem dX7_carries_45 : decode cX7_carries 45 = .ok (.iload 4, 2) := by decide +kernel
theorem dX7_carries_47 : decode cX7_carries 47 = .ok (.iload_n 2, 1) := by decide +kernel
theorem dX7_carries_48 : decode cX7_carries 48 = .ok (.iadd, 1) := by decide +kernel
theorem dX7_carries_49 : decode cX7_carries 49 = .ok (.ireturn, 1) := by decide +kernel
theorem dX7_all_0 : decode cX7_all 0 = .ok (.aload_n 0, 1) := by decide +kernel
theorem dX7_all_1 : decode cX7_all 1 = .ok (.aload_n 0, 1) := by decide +kernel
theorem dX7_all_2 : decode cX7_all 2 = .ok (.getfield 29, 3) := by decide +kernel
theorem dX7_all_5 : decode cX7_all 5 = .ok (.bipush 6, 2) := by decide +kernel
theorem dX7_all_7 : decode cX7_all 7 = .ok (.aload_n 1, 1) := by decide +kernel
theorem dX7_all_8 : decode cX7_all 8 = .ok (.iconst 0, 1) := by decide +kernel
theorem dX7_all_9 : decode cX7_all 9 = .ok (.iload_n 2, 1) := by decide +kernel
theorem dX7_all_10 : decode cX7_all 10 = .ok (.invokevirtual 154, 3) := by decide +kernel
theorem dX7_all_13 : decode cX7_all 13 = .ok (.istore_n 3, 1) := by decide +kernel
theorem dX7_all_14 : decode cX7_all 14 = .ok (.aload_n 0, 1) := by decide +kernel
theorem dX7_all_15 : decode cX7_all 15 = .ok (.aload_n 0, 1) := by decide +kernel
theorem dX7_all_16 : decode cX7_all 16 = .ok (.getfield 32, 3) := by decide +kernel
theorem dX7_all_19 : decode cX7_all 19 = .ok (.bipush 6, 2) := by decide +kernel
theorem dX7_all_21 : decode cX7_all 21 = .ok (.aload_n 1, 1) := by decide +kernel
theorem dX7_all_22 : decode cX7_all 22 = .ok (.iload_n 3, 1) := by decide +kernel
theorem dX7_all_23 : decode cX7_all 23 = .ok (.iload_n 2, 1) := by decide +kernel
theorem dX7_all_24 : decode cX7_all 24 = .ok (.invokevirtual 154, 3) := by decide +kernel
theorem dX7_all_27 : decode cX7_all 27 = .ok (.istore_n 3, 1) := by decide +kernel
theorem dX7_all_28 : decode cX7_all 28 = .ok (.aload_n 0, 1) := by decide +kernel
theorem dX7_all_29 : decode cX7_all 29 = .ok (.aload_n 0, 1) := by decide +kernel
theorem dX7_all_30 : decode cX7_all 30 = .ok (.getfield 35, 3) := by decide +kernel
theorem dX7_all_33 : decode cX7_all 33 = .ok (.bipush 6, 2) := by decide +kernel
theorem dX7_all_35 : decode cX7_all 35 = .ok (.aload_n 1, 1) := by decide +kernel
theorem dX7_all_36 : decode cX7_all 36 = .ok (.iload_n 3, 1) := by decide +kernel
theorem dX7_all_37 : decode cX7_all 37 = .ok (.iload_n 2, 1) := by decide +kernel
theorem dX7_all_38 : decode cX7_all 38 = .ok (.invokevirtual 154, 3) := by decide +kernel
theorem dX7_all_41 : decode cX7_all 41 = .ok (.istore_n 3, 1) := by decide +kernel
theorem dX7_all_42 : decode cX7_all 42 = .ok (.aload_n 0, 1) := by decide +kernel
theorem dX7_all_43 : decode cX7_all 43 = .ok (.aload_n 0, 1) := by decide +kernel
theorem dX7_all_44 : decode cX7_all 44 = .ok (.getfield 38, 3) := by decide +kernel
theorem dX7_all_47 : decode cX7_all 47 = .ok (.bipush 72, 2) := by decide +kernel
theorem dX7_all_49 : decode cX7_all 49 = .ok (.aload_n 1, 1) := by decide +kernel
theorem dX7_all_50 : decode cX7_all 50 = .ok (.iload_n 3, 1) := by decide +kernel
theorem dX7_all_51 : decode cX7_all 51 = .ok (.iload_n 2, 1) := by decide +kernel
theorem dX7_all_52 : decode cX7_all 52 = .ok (.invokevirtual 154, 3) := by decide +kernel
theorem dX7_all_55 : decode cX7_all 55 = .ok (.istore_n 3, 1) := by decide +kernel
theorem dX7_all_56 : decode cX7_all 56 = .ok (.aload_n 0, 1) := by decide +kernel
theorem dX7_all_57 : decode cX7_all 57 = .ok (.aload_n 0, 1) := by decide +kernel
theorem dX7_all_58 : decode cX7_all 58 = .ok (.getfield 41, 3) := by decide +kernel
theorem dX7_all_61 : decode cX7_all 61 = .ok (.bipush 10, 2) := by decide +kernel
theorem dX7_all_63 : decode cX7_all 63 = .ok (.aload_n 1, 1) := by decide +kernel
theorem dX7_all_64 : decode cX7_all 64 = .ok (.iload_n 3, 1) := by decide +kernel
theorem dX7_all_65 : decode cX7_all 65 = .ok (.iload_n 2, 1) := by decide +kernel
theorem dX7_all_66 : decode cX7_all 66 = .ok (.invokevirtual 154, 3) := by decide +kernel
theorem dX7_all_69 : decode cX7_all 69 = .ok (.istore_n 3, 1) := by decide +kernel
theorem dX7_all_70 : decode cX7_all 70 = .ok (.iload_n 2, 1) := by decide +kernel
theorem dX7_all_71 : decode cX7_all 71 = .ok (.ifCond .eq 78, 3) := by decide +kernel
theorem dX7_all_74 : decode cX7_all 74 = .ok (.aload_n 0, 1) := by decide +kernel
theorem dX7_all_75 : decode cX7_all 75 = .ok (.aload_n 1, 1) := by decide +kernel
theorem dX7_all_76 : decode cX7_all 76 = .ok (.iload_n 3, 1) := by decide +kernel
theorem dX7_all_77 : decode cX7_all 77 = .ok (.iaload, 1) := by decide +kernel
theorem dX7_all_78 : decode cX7_all 78 = .ok (.putfield 90, 3) := by decide +kernel
theorem dX7_all_81 : decode cX7_all 81 = .ok (.aload_n 0, 1) := by decide +kernel
theorem dX7_all_82 : decode cX7_all 82 = .ok (.aload_n 1, 1) := by decide +kernel
theorem dX7_all_83 : decode cX7_all 83 = .ok (.iload_n 3, 1) := by decide +kernel
theorem dX7_all_84 : decode cX7_all 84 = .ok (.iconst 1, 1) := by decide +kernel
theorem dX7_all_85 : decode cX7_all 85 = .ok (.iadd, 1) := by decide +kernel
theorem dX7_all_86 : decode cX7_all 86 = .ok (.iaload, 1) := by decide +kernel
theorem dX7_all_87 : decode cX7_all 87 = .ok (.putfield 7, 3) := by decide +kernel
theorem dX7_all_90 : decode cX7_all 90 = .ok (.aload_n 0, 1) := by decide +kernel
theorem dX7_all_91 : decode cX7_all 91 = .ok (.aload_n 1, 1) := by decide +kernel
theorem dX7_all_92 : decode cX7_all 92 = .ok (.iload_n 3, 1) := by decide +kernel
theorem dX7_all_93 : decode cX7_all 93 = .ok (.iconst 2, 1) := by decide +kernel
theorem dX7_all_94 : decode cX7_all 94 = .ok (.iadd, 1) := by decide +kernel
theorem dX7_all_95 : decode cX7_all 95 = .ok (.iaload, 1) := by decide +kernel
theorem dX7_all_96 : decode cX7_all 96 = .ok (.putfield 13, 3) := by decide +kernel
theorem dX7_all_99 : decode cX7_all 99 = .ok (.aload_n 0, 1) := by decide +kernel
theorem dX7_all_100 : decode cX7_all 100 = .ok (.aload_n 1, 1) := by decide +kernel
theorem dX7_all_101 : decode cX7_all 101 = .ok (.iload_n 3, 1) := by decide +kernel
theorem dX7_all_102 : decode cX7_all 102 = .ok (.iconst 3, 1) := by decide +kernel
theorem dX7_all_103 : decode cX7_all 103 = .ok (.iadd, 1) := by decide +kernel
theorem dX7_all_104 : decode cX7_all 104 = .ok (.iaload, 1) := by decide +kernel
theorem dX7_all_105 : decode cX7_all 105 = .ok (.putfield 16, 3) := by decide +kernel
theorem dX7_all_108 : decode cX7_all 108 = .ok (.aload_n 0, 1) := by decide +kernel
theorem dX7_all_109 : decode cX7_all 109 = .ok (.aload_n 1, 1) := by decide +kernel
theorem dX7_all_110 : decode cX7_all 110 = .ok (.iload_n 3, 1) := by decide +kernel
theorem dX7_all_111 : decode cX7_all 111 = .ok (.iconst 4, 1) := by decide +kernel
theorem dX7_all_112 : decode cX7_all 112 = .ok (.iadd, 1) := by decide +kernel
theorem dX7_all_113 : decode cX7_all 113 = .ok (.iaload, 1) := by decide +kernel
theorem dX7_all_114 : decode cX7_all 114 = .ok (.putfield 158, 3) := by decide +kernel
theorem dX7_all_117 : decode cX7_all 117 = .ok (.aload_n 0, 1) := by decide +kernel
theorem dX7_all_118 : decode cX7_all 118 = .ok (.aload_n 1, 1) := by decide +kernel
theorem dX7_all_119 : decode cX7_all 119 = .ok (.iload_n 3, 1) := by decide +kernel
theorem dX7_all_120 : decode cX7_all 120 = .ok (.iconst 5, 1) := by decide +kernel
theorem dX7_all_121 : decode cX7_all 121 = .ok (.iadd, 1) := by decide +kernel
theorem dX7_all_122 : decode cX7_all 122 = .ok (.iaload, 1) := by decide +kernel
theorem dX7_all_123 : decode cX7_all 123 = .ok (.putfield 161, 3) := by decide +kernel
theorem dX7_all_126 : decode cX7_all 126 = .ok (.aload_n 0, 1) := by decide +kernel
theorem dX7_all_127 : decode cX7_all 127 = .ok (.aload_n 1, 1) := by decide +kernel
theorem dX7_all_128 : decode cX7_all 128 = .ok (.iload_n 3, 1) := by decide +kernel
theorem dX7_all_129 : decode cX7_all 129 = .ok (.bipush 6, 2) := by decide +kernel
theorem dX7_all_131 : decode cX7_all 131 = .ok (.iadd, 1) := by decide +kernel
theorem dX7_all_132 : decode cX7_all 132 = .ok (.iaload, 1) := by decide +kernel
theorem dX7_all_133 : decode cX7_all 133 = .ok (.putfield 164, 3) := by decide +kernel
theorem dX7_all_136 : decode cX7_all 136 = .ok (.aload_n 0, 1) := by decide +kernel
theorem dX7_all_137 : decode cX7_all 137 = .ok (.aload_n 1, 1) := by decide +kernel
theorem dX7_all_138 : decode cX7_all 138 = .ok (.iload_n 3, 1) := by decide +kernel
theorem dX7_all_139 : decode cX7_all 139 = .ok (.bipush 7, 2) := by decide +kernel
theorem dX7_all_141 : decode cX7_all 141 = .ok (.iadd, 1) := by decide +kernel
theorem dX7_all_142 : decode cX7_all 142 = .ok (.iaload, 1) := by decide +kernel
theorem dX7_all_143 : decode cX7_all 143 = .ok (.putfield 19, 3) := by decide +kernel
theorem dX7_all_146 : decode cX7_all 146 = .ok (.goto 75, 3) := by decide +kernel
theorem dX7_all_149 : decode cX7_all 149 = .ok (.aload_n 1, 1) := by decide +kernel
theorem dX7_all_150 : decode cX7_all 150 = .ok (.iload_n 3, 1) := by decide +kernel
theorem dX7_all_151 : decode cX7_all 151 = .ok (.aload_n 0, 1) := by decide +kernel
theorem dX7_all_152 : decode cX7_all 152 = .ok (.getfield 90, 3) := by decide +kernel
theorem dX7_all_155 : decode cX7_all 155 = .ok (.iastore, 1) := by decide +kernel
theorem dX7_all_156 : decode cX7_all 156 = .ok (.aload_n 1, 1) := by decide +kernel
theorem dX7_all_157 : decode cX7_all 157 = .ok (.iload_n 3, 1) := by decide +kernel
theorem dX7_all_158 : decode cX7_all 158 = .ok (.iconst 1, 1) := by decide +kernel
theorem dX7_all_159 : decode cX7_all 159 = .ok (.iadd, 1) := by decide +kernel
theorem dX7_all_160 : decode cX7_all 160 = .ok (.aload_n 0, 1) := by decide +kernel
theorem dX7_all_161 : decode cX7_all 161 = .ok (.getfield 7, 3) := by decide +kernel
theorem dX7_all_164 : decode cX7_all 164 = .ok (.iastore, 1) := by decide +kernel
theorem dX7_all_165 : decode cX7_all 165 = .ok (.aload_n 1, 1) := by decide +kernel
theorem dX7_all_166 : decode cX7_all 166 = .ok (.iload_n 3, 1) := by decide +kernel
theorem dX7_all_167 : decode cX7_all 167 = .ok (.iconst 2, 1) := by decide +kernel
theorem dX7_all_168 : decode cX7_all 168 = .ok (.iadd, 1) := by decide +kernel
theorem dX7_all_169 : decode cX7_all 169 = .ok (.aload_n 0, 1) := by decide +kernel
theorem dX7_all_170 : decode cX7_all 170 = .ok (.getfield 13, 3) := by decide +kernel
theorem dX7_all_173 : decode cX7_all 173 = .ok (.iastore, 1) := by decide +kernel
theorem dX7_all_174 : decode cX7_all 174 = .ok (.aload_n 1, 1) := by decide +kernel
theorem dX7_all_175 : decode cX7_all 175 = .ok (.iload_n 3, 1) := by decide +kernel
theorem dX7_all_176 : decode cX7_all 176 = .ok (.iconst 3, 1) := by decide +kernel
theorem dX7_all_177 : decode cX7_all 177 = .ok (.iadd, 1) := by decide +kernel
theorem dX7_all_178 : decode cX7_all 178 = .ok (.aload_n 0, 1) := by decide +kernel
theorem dX7_all_179 : decode cX7_all 179 = .ok (.getfield 16, 3) := by decide +kernel
theorem dX7_all_182 : decode cX7_all 182 = .ok (.iastore, 1) := by decide +kernel
theorem dX7_all_183 : decode cX7_all 183 = .ok (.aload_n 1, 1) := by decide +kernel
theorem dX7_all_184 : decode cX7_all 184 = .ok (.iload_n 3, 1) := by decide +kernel
theorem dX7_all_185 : decode cX7_all 185 = .ok (.iconst 4, 1) := by decide +kernel
theorem dX7_all_186 : decode cX7_all 186 = .ok (.iadd, 1) := by decide +kernel
theorem dX7_all_187 : decode cX7_all 187 = .ok (.aload_n 0, 1) := by decide +kernel
theorem dX7_all_188 : decode cX7_all 188 = .ok (.getfield 158, 3) := by decide +kernel
theorem dX7_all_191 : decode cX7_all 191 = .ok (.iastore, 1) := by decide +kernel
theorem dX7_all_192 : decode cX7_all 192 = .ok (.aload_n 1, 1) := by decide +kernel
theorem dX7_all_193 : decode cX7_all 193 = .ok (.iload_n 3, 1) := by decide +kernel
theorem dX7_all_194 : decode cX7_all 194 = .ok (.iconst 5, 1) := by decide +kernel
theorem dX7_all_195 : decode cX7_all 195 = .ok (.iadd, 1) := by decide +kernel
theorem dX7_all_196 : decode cX7_all 196 = .ok (.aload_n 0, 1) := by decide +kernel
theorem dX7_all_197 : decode cX7_all 197 = .ok (.getfield 161, 3) := by decide +kernel
theorem dX7_all_200 : decode cX7_all 200 = .ok (.iastore, 1) := by decide +kernel
theorem dX7_all_201 : decode cX7_all 201 = .ok (.aload_n 1, 1) := by decide +kernel
theorem dX7_all_202 : decode cX7_all 202 = .ok (.iload_n 3, 1) := by decide +kernel
theorem dX7_all_203 : decode cX7_all 203 = .ok (.bipush 6, 2) := by decide +kernel
theorem dX7_all_205 : decode cX7_all 205 = .ok (.iadd, 1) := by decide +kernel
theorem dX7_all_206 : decode cX7_all 206 = .ok (.aload_n 0, 1) := by decide +kernel
theorem dX7_all_207 : decode cX7_all 207 = .ok (.getfield 164, 3) := by decide +kernel
theorem dX7_all_210 : decode cX7_all 210 = .ok (.iastore, 1) := by decide +kernel
theorem dX7_all_211 : decode cX7_all 211 = .ok (.aload_n 1, 1) := by decide +kernel
theorem dX7_all_212 : decode cX7_all 212 = .ok (.iload_n 3, 1) := by decide +kernel
theorem dX7_all_213 : decode cX7_all 213 = .ok (.bipush 7, 2) := by decide +kernel
theorem dX7_all_215 : decode cX7_all 215 = .ok (.iadd, 1) := by decide +kernel
theorem dX7_all_216 : decode cX7_all 216 = .ok (.aload_n 0, 1) := by decide +kernel
theorem dX7_all_217 : decode cX7_all 217 = .ok (.getfield 19, 3) := by decide +kernel
theorem dX7_all_220 : decode cX7_all 220 = .ok (.iastore, 1) := by decide +kernel
theorem dX7_all_221 : decode cX7_all 221 = .ok (.return_, 1) := by decide +kernel
theorem dX7_table_0 : decode cX7_table 0 = .ok (.aload_n 0, 1) := by decide +kernel
theorem dX7_table_1 : decode cX7_table 1 = .ok (.iload_n 1, 1) := by decide +kernel
theorem dX7_table_2 : decode cX7_table 2 = .ok (.invokevirtual 167, 3) := by decide +kernel
theorem dX7_table_5 : decode cX7_table 5 = .ok (.istore_n 2, 1) := by decide +kernel
theorem dX7_table_6 : decode cX7_table 6 = .ok (.iload_n 2, 1) := by decide +kernel
theorem dX7_table_7 : decode cX7_table 7 = .ok (.ifCond .eq 9, 3) := by decide +kernel
theorem dX7_table_10 : decode cX7_table 10 = .ok (.aload_n 0, 1) := by decide +kernel
theorem dX7_table_11 : decode cX7_table 11 = .ok (.iload_n 2, 1) := by decide +kernel
theorem dX7_table_12 : decode cX7_table 12 = .ok (.invokevirtual 100, 3) := by decide +kernel
theorem dX7_table_15 : decode cX7_table 15 = .ok (.ireturn, 1) := by decide +kernel
theorem dX7_table_16 : decode cX7_table 16 = .ok (.aload_n 0, 1) := by decide +kernel
theorem dX7_table_17 : decode cX7_table 17 = .ok (.aload_n 0, 1) := by decide +kernel
theorem dX7_table_18 : decode cX7_table 18 = .ok (.getfield 69, 3) := by decide +kernel
theorem dX7_table_21 : decode cX7_table 21 = .ok (.iconst 0, 1) := by decide +kernel
theorem dX7_table_22 : decode cX7_table 22 = .ok (.invokevirtual 170, 3) := by decide +kernel
theorem dX7_table_25 : decode cX7_table 25 = .ok (.aload_n 0, 1) := by decide +kernel
theorem dX7_table_26 : decode cX7_table 26 = .ok (.sipush 160, 3) := by decide +kernel
theorem dX7_table_29 : decode cX7_table 29 = .ok (.iload_n 1, 1) := by decide +kernel
theorem dX7_table_30 : decode cX7_table 30 = .ok (.imul, 1) := by decide +kernel
theorem dX7_table_31 : decode cX7_table 31 = .ok (.putfield 125, 3) := by decide +kernel
theorem dX7_table_34 : decode cX7_table 34 = .ok (.aload_n 0, 1) := by decide +kernel
theorem dX7_table_35 : decode cX7_table 35 = .ok (.iconst 0, 1) := by decide +kernel
theorem dX7_table_36 : decode cX7_table 36 = .ok (.putfield 119, 3) := by decide +kernel
theorem dX7_table_39 : decode cX7_table 39 = .ok (.aload_n 0, 1) := by decide +kernel
theorem dX7_table_40 : decode cX7_table 40 = .ok (.aload_n 0, 1) := by decide +kernel
theorem dX7_table_41 : decode cX7_table 41 = .ok (.getfield 50, 3) := by decide +kernel
theorem dX7_table_44 : decode cX7_table 44 = .ok (.iload_n 1, 1) := by decide +kernel
theorem dX7_table_45 : decode cX7_table 45 = .ok (.iaload, 1) := by decide +kernel
theorem dX7_table_46 : decode cX7_table 46 = .ok (.putfield 122, 3) := by decide +kernel
theorem dX7_table_49 : decode cX7_table 49 = .ok (.aload_n 0, 1) := by decide +kernel
theorem dX7_table_50 : decode cX7_table 50 = .ok (.iconst (-1), 1) := by decide +kernel
theorem dX7_table_51 : decode cX7_table 51 = .ok (.putfield 22, 3) := by decide +kernel
theorem dX7_table_54 : decode cX7_table 54 = .ok (.iconst 1, 1) := by decide +kernel
theorem dX7_table_55 : decode cX7_table 55 = .ok (.istore_n 3, 1) := by decide +kernel
theorem dX7_table_56 : decode cX7_table 56 = .ok (.aload_n 0, 1) := by decide +kernel
theorem dX7_table_57 : decode cX7_table 57 = .ok (.invokevirtual 174, 3) := by decide +kernel
theorem dX7_table_60 : decode cX7_table 60 = .ok (.istore 4, 2) := by decide +kernel
theorem dX7_table_62 : decode cX7_table 62 = .ok (.iload 4, 2) := by decide +kernel
theorem dX7_table_64 : decode cX7_table 64 = .ok (.ifCond .eq 69, 3) := by decide +kernel
theorem dX7_table_67 : decode cX7_table 67 = .ok (.aload_n 0, 1) := by decide +kernel
theorem dX7_table_68 : decode cX7_table 68 = .ok (.getfield 119, 3) := by decide +kernel
theorem dX7_table_71 : decode cX7_table 71 = .ok (.aload_n 0, 1) := by decide +kernel
theorem dX7_table_72 : decode cX7_table 72 = .ok (.getfield 122, 3) := by decide +kernel
theorem dX7_table_75 : decode cX7_table 75 = .ok (.if_icmp .ge 58, 3) := by decide +kernel
theorem dX7_table_78 : decode cX7_table 78 = .ok (.aload_n 0, 1) := by decide +kernel
theorem dX7_table_79 : decode cX7_table 79 = .ok (.getfield 56, 3) := by decide +kernel
theorem dX7_table_82 : decode cX7_table 82 = .ok (.aload_n 0, 1) := by decide +kernel
theorem dX7_table_83 : decode cX7_table 83 = .ok (.getfield 125, 3) := by decide +kernel
theorem dX7_table_86 : decode cX7_table 86 = .ok (.aload_n 0, 1) := by decide +kernel
theorem dX7_table_87 : decode cX7_table 87 = .ok (.getfield 119, 3) := by decide +kernel
theorem dX7_table_90 : decode cX7_table 90 = .ok (.iadd, 1) := by decide +kernel
theorem dX7_table_91 : decode cX7_table 91 = .ok (.laload, 1) := by decide +kernel
theorem dX7_table_92 : decode cX7_table 92 = .ok (.l2i, 1) := by decide +kernel
theorem dX7_table_93 : decode cX7_table 93 = .ok (.bipush 59, 2) := by decide +kernel
theorem dX7_table_95 : decode cX7_table 95 = .ok (.if_icmp .eq 16, 3) := by decide +kernel
theorem dX7_table_98 : decode cX7_table 98 = .ok (.aload_n 0, 1) := by decide +kernel
theorem dX7_table_99 : decode cX7_table 99 = .ok (.aload_n 0, 1) := by decide +kernel
theorem dX7_table_100 : decode cX7_table 100 = .ok (.getfield 119, 3) := by decide +kernel
theorem dX7_table_103 : decode cX7_table 103 = .ok (.invokevirtual 135, 3) := by decide +kernel
theorem dX7_table_106 : decode cX7_table 106 = .ok (.istore 4, 2) := by decide +kernel
theorem dX7_table_108 : decode cX7_table 108 = .ok (.goto (-46), 3) := by decide +kernel
theorem dX7_table_111 : decode cX7_table 111 = .ok (.aload_n 0, 1) := by decide +kernel
theorem dX7_table_112 : decode cX7_table 112 = .ok (.dup, 1) := by decide +kernel
theorem dX7_table_113 : decode cX7_table 113 = .ok (.getfield 119, 3) := by decide +kernel
theorem dX7_table_116 : decode cX7_table 116 = .ok (.iconst 1, 1) := by decide +kernel
theorem dX7_table_117 : decode cX7_table 117 = .ok (.iadd, 1) := by decide +kernel
theorem dX7_table_118 : decode cX7_table 118 = .ok (.putfield 119, 3) := by decide +kernel
theorem dX7_table_121 : decode cX7_table 121 = .ok (.iinc 3 1, 3) := by decide +kernel
theorem dX7_table_124 : decode cX7_table 124 = .ok (.aload_n 0, 1) := by decide +kernel
theorem dX7_table_125 : decode cX7_table 125 = .ok (.invokevirtual 174, 3) := by decide +kernel
theorem dX7_table_128 : decode cX7_table 128 = .ok (.istore 4, 2) := by decide +kernel
theorem dX7_table_130 : decode cX7_table 130 = .ok (.goto (-68), 3) := by decide +kernel
theorem dX7_table_133 : decode cX7_table 133 = .ok (.iload 4, 2) := by decide +kernel
theorem dX7_table_135 : decode cX7_table 135 = .ok (.ifCond .eq 5, 3) := by decide +kernel
theorem dX7_table_138 : decode cX7_table 138 = .ok (.iload_n 3, 1) := by decide +kernel
theorem dX7_table_139 : decode cX7_table 139 = .ok (.ireturn, 1) := by decide +kernel
theorem dX7_table_140 : decode cX7_table 140 = .ok (.aload_n 0, 1) := by decide +kernel
theorem dX7_table_141 : decode cX7_table 141 = .ok (.aload_n 0, 1) := by decide +kernel
theorem dX7_table_142 : decode cX7_table 142 = .ok (.getfield 69, 3) := by decide +kernel
theorem dX7_table_145 : decode cX7_table 145 = .ok (.iconst 1, 1) := by decide +kernel
theorem dX7_table_146 : decode cX7_table 146 = .ok (.invokevirtual 170, 3) := by decide +kernel
theorem dX7_table_149 : decode cX7_table 149 = .ok (.aload_n 0, 1) := by decide +kernel
theorem dX7_table_150 : decode cX7_table 150 = .ok (.aload_n 0, 1) := by decide +kernel
theorem dX7_table_151 : decode cX7_table 151 = .ok (.getfield 116, 3) := by decide +kernel
theorem dX7_table_154 : decode cX7_table 154 = .ok (.putfield 22, 3) := by decide +kernel
theorem dX7_table_157 : decode cX7_table 157 = .ok (.aload_n 0, 1) := by decide +kernel
theorem dX7_table_158 : decode cX7_table 158 = .ok (.bipush (-6), 2) := by decide +kernel
theorem dX7_table_160 : decode cX7_table 160 = .ok (.invokevirtual 100, 3) := by decide +kernel
theorem dX7_table_163 : decode cX7_table 163 = .ok (.ireturn, 1) := by decide +kernel
theorem dX7_fault_0 : decode cX7_fault 0 = .ok (.aload_n 0, 1) := by decide +kernel
theorem dX7_fault_1 : decode cX7_fault 1 = .ok (.getfield 22, 3) := by decide +kernel
theorem dX7_fault_4 : decode cX7_fault 4 = .ok (.ireturn, 1) := by decide +kernel
theorem dX7_soakOf_0 : decode cX7_soakOf 0 = .ok (.iconst 1, 1) := by decide +kernel
theorem dX7_soakOf_1 : decode cX7_soakOf 1 = .ok (.aload_n 0, 1) := by decide +kernel
theorem dX7_soakOf_2 : decode cX7_soakOf 2 = .ok (.getfield 32, 3) := by decide +kernel
theorem dX7_soakOf_5 : decode cX7_soakOf 5 = .ok (.iload_n 1, 1) := by decide +kernel
theorem dX7_soakOf_6 : decode cX7_soakOf 6 = .ok (.iaload, 1) := by decide +kernel
theorem dX7_soakOf_7 : decode cX7_soakOf 7 = .ok (.iadd, 1) := by decide +kernel
theorem dX7_soakOf_8 : decode cX7_soakOf 8 = .ok (.iload 4, 2) := by decide +kernel
theorem dX7_soakOf_10 : decode cX7_soakOf 10 = .ok (.bipush 10, 2) := by decide +kernel
theorem dX7_soakOf_12 : decode cX7_soakOf 12 = .ok (.idiv, 1) := by decide +kernel
theorem dX7_soakOf_13 : decode cX7_soakOf 13 = .ok (.iadd, 1) := by decide +kernel
theorem dX7_soakOf_14 : decode cX7_soakOf 14 = .ok (.istore 5, 2) := by decide +kernel
theorem dX7_soakOf_16 : decode cX7_soakOf 16 = .ok (.aload_n 0, 1) := by decide +kernel
theorem dX7_soakOf_17 : decode cX7_soakOf 17 = .ok (.getfield 29, 3) := by decide +kernel
theorem dX7_soakOf_20 : decode cX7_soakOf 20 = .ok (.iload_n 1, 1) := by decide +kernel
theorem dX7_soakOf_21 : decode cX7_soakOf 21 = .ok (.iaload, 1) := by decide +kernel
theorem dX7_soakOf_22 : decode cX7_soakOf 22 = .ok (.istore 6, 2) := by decide +kernel
theorem dX7_soakOf_24 : decode cX7_soakOf 24 = .ok (.iload 6, 2) := by decide +kernel
theorem dX7_soakOf_26 : decode cX7_soakOf 26 = .ok (.iconst 1, 1) := by decide +kernel
theorem dX7_soakOf_27 : decode cX7_soakOf 27 = .ok (.if_icmp .eq 9, 3) := by decide +kernel
theorem dX7_soakOf_30 : decode cX7_soakOf 30 = .ok (.iload 6, 2) := by decide +kernel
theorem dX7_soakOf_32 : decode cX7_soakOf 32 = .ok (.iconst 3, 1) := by decide +kernel
theorem dX7_soakOf_33 : decode cX7_soakOf 33 = .ok (.if_icmp .ne 8, 3) := by decide +kernel
theorem dX7_soakOf_36 : decode cX7_soakOf 36 = .ok (.iload 5, 2) := by decide +kernel
theorem dX7_soakOf_38 : decode cX7_soakOf 38 = .ok (.iconst 2, 1) := by decide +kernel
theorem dX7_soakOf_39 : decode cX7_soakOf 39 = .ok (.idiv, 1) := by decide +kernel
theorem dX7_soakOf_40 : decode cX7_soakOf 40 = .ok (.ireturn, 1) := by decide +kernel
theorem dX7_soakOf_41 : decode cX7_soakOf 41 = .ok (.iload 6, 2) := by decide +kernel
theorem dX7_soakOf_43 : decode cX7_soakOf 43 = .ok (.iconst 4, 1) := by decide +kernel
theorem dX7_soakOf_44 : decode cX7_soakOf 44 = .ok (.if_icmp .eq 29, 3) := by decide +kernel
theorem dX7_soakOf_47 : decode cX7_soakOf 47 = .ok (.iload 6, 2) := by decide +kernel
theorem dX7_soakOf_49 : decode cX7_soakOf 49 = .ok (.bipush 6, 2) := by decide +kernel
theorem dX7_soakOf_51 : decode cX7_soakOf 51 = .ok (.if_icmp .eq 22, 3) := by decide +kernel
theorem dX7_soakOf_54 : decode cX7_soakOf 54 = .ok (.iload 6, 2) := by decide +kernel
theorem dX7_soakOf_56 : decode cX7_soakOf 56 = .ok (.iconst 2, 1) := by decide +kernel
theorem dX7_soakOf_57 : decode cX7_soakOf 57 = .ok (.if_icmp .eq 9, 3) := by decide +kernel
theorem dX7_soakOf_60 : decode cX7_soakOf 60 = .ok (.iload 6, 2) := by decide +kernel
theorem dX7_soakOf_62 : decode cX7_soakOf 62 = .ok (.iconst 5, 1) := by decide +kernel
theorem dX7_soakOf_63 : decode cX7_soakOf 63 = .ok (.if_icmp .ne 15, 3) := by decide +kernel
theorem dX7_soakOf_66 : decode cX7_soakOf 66 = .ok (.iload_n 2, 1) := by decide +kernel
theorem dX7_soakOf_67 : decode cX7_soakOf 67 = .ok (.iload_n 3, 1) := by decide +kernel
theorem dX7_soakOf_68 : decode cX7_soakOf 68 = .ok (.iconst 2, 1) := by decide +kernel
theorem dX7_soakOf_69 : decode cX7_soakOf 69 = .ok (.idiv, 1) := by decide +kernel
theorem dX7_soakOf_70 : decode cX7_soakOf 70 = .ok (.if_icmp .ne 8, 3) := by decide +kernel
theorem dX7_soakOf_73 : decode cX7_soakOf 73 = .ok (.iconst 2, 1) := by decide +kernel
theorem dX7_soakOf_74 : decode cX7_soakOf 74 = .ok (.iload 5, 2) := by decide +kernel
theorem dX7_soakOf_76 : decode cX7_soakOf 76 = .ok (.imul, 1) := by decide +kernel
theorem dX7_soakOf_77 : decode cX7_soakOf 77 = .ok (.ireturn, 1) := by decide +kernel
theorem dX7_soakOf_78 : decode cX7_soakOf 78 = .ok (.iload 5, 2) := by decide +kernel
theorem dX7_soakOf_80 : decode cX7_soakOf 80 = .ok (.ireturn, 1) := by decide +kernel
theorem dX7_lays_0 : decode cX7_lays 0 = .ok (.aload_n 0, 1) := by decide +kernel
theorem dX7_lays_1 : decode cX7_lays 1 = .ok (.aload_n 0, 1) := by decide +kernel
theorem dX7_lays_2 : decode cX7_lays 2 = .ok (.getfield 35, 3) := by decide +kernel
theorem dX7_lays_5 : decode cX7_lays 5 = .ok (.iload_n 1, 1) := by decide +kernel
theorem dX7_lays_6 : decode cX7_lays 6 = .ok (.iaload, 1) := by decide +kernel
theorem dX7_lays_7 : decode cX7_lays 7 = .ok (.putfield 177, 3) := by decide +kernel
theorem dX7_lays_10 : decode cX7_lays 10 = .ok (.iconst 0, 1) := by decide +kernel
theorem dX7_lays_11 : decode cX7_lays 11 = .ok (.istore_n 2, 1) := by decide +kernel
theorem dX7_lays_12 : decode cX7_lays 12 = .ok (.iload_n 2, 1) := by decide +kernel
theorem dX7_lays_13 : decode cX7_lays 13 = .ok (.aload_n 0, 1) := by decide +kernel
theorem dX7_lays_14 : decode cX7_lays 14 = .ok (.getfield 177, 3) := by decide +kernel
theorem dX7_lays_17 : decode cX7_lays 17 = .ok (.if_icmp .ge 26, 3) := by decide +kernel
theorem dX7_lays_20 : decode cX7_lays 20 = .ok (.aload_n 0, 1) := by decide +kernel
theorem dX7_lays_21 : decode cX7_lays 21 = .ok (.getfield 75, 3) := by decide +kernel
theorem dX7_lays_24 : decode cX7_lays 24 = .ok (.iload_n 2, 1) := by decide +kernel
theorem dX7_lays_25 : decode cX7_lays 25 = .ok (.aload_n 0, 1) := by decide +kernel
theorem dX7_lays_26 : decode cX7_lays 26 = .ok (.getfield 38, 3) := by decide +kernel
theorem dX7_lays_29 : decode cX7_lays 29 = .ok (.bipush 12, 2) := by decide +kernel
theorem dX7_lays_31 : decode cX7_lays 31 = .ok (.iload_n 1, 1) := by decide +kernel
theorem dX7_lays_32 : decode cX7_lays 32 = .ok (.imul, 1) := by decide +kernel
theorem dX7_lays_33 : decode cX7_lays 33 = .ok (.iload_n 2, 1) := by decide +kernel
theorem dX7_lays_34 : decode cX7_lays 34 = .ok (.iadd, 1) := by decide +kernel
theorem dX7_lays_35 : decode cX7_lays 35 = .ok (.iaload, 1) := by decide +kernel
theorem dX7_lays_36 : decode cX7_lays 36 = .ok (.iastore, 1) := by decide +kernel
theorem dX7_lays_37 : decode cX7_lays 37 = .ok (.iinc 2 1, 3) := by decide +kernel
theorem dX7_lays_40 : decode cX7_lays 40 = .ok (.goto (-28), 3) := by decide +kernel
theorem dX7_lays_43 : decode cX7_lays 43 = .ok (.aload_n 0, 1) := by decide +kernel
theorem dX7_lays_44 : decode cX7_lays 44 = .ok (.iconst 0, 1) := by decide +kernel
theorem dX7_lays_45 : decode cX7_lays 45 = .ok (.putfield 180, 3) := by decide +kernel
theorem dX7_lays_48 : decode cX7_lays 48 = .ok (.aload_n 0, 1) := by decide +kernel
theorem dX7_lays_49 : decode cX7_lays 49 = .ok (.iconst 0, 1) := by decide +kernel
theorem dX7_lays_50 : decode cX7_lays 50 = .ok (.putfield 183, 3) := by decide +kernel
theorem dX7_lays_53 : decode cX7_lays 53 = .ok (.aload_n 0, 1) := by decide +kernel
theorem dX7_lays_54 : decode cX7_lays 54 = .ok (.iconst (-1), 1) := by decide +kernel
theorem dX7_lays_55 : decode cX7_lays 55 = .ok (.putfield 186, 3) := by decide +kernel
theorem dX7_lays_58 : decode cX7_lays 58 = .ok (.return_, 1) := by decide +kernel
theorem dX7_holdsOf_0 : decode cX7_holdsOf 0 = .ok (.bipush 60, 2) := by decide +kernel
theorem dX7_holdsOf_2 : decode cX7_holdsOf 2 = .ok (.aload_n 0, 1) := by decide +kernel
theorem dX7_holdsOf_3 : decode cX7_holdsOf 3 = .ok (.getfield 75, 3) := by decide +kernel
theorem dX7_holdsOf_6 : decode cX7_holdsOf 6 = .ok (.iload_n 2, 1) := by decide +kernel
theorem dX7_holdsOf_7 : decode cX7_holdsOf 7 = .ok (.iaload, 1) := by decide +kernel
theorem dX7_holdsOf_8 : decode cX7_holdsOf 8 = .ok (.isub, 1) := by decide +kernel
theorem dX7_holdsOf_9 : decode cX7_holdsOf 9 = .ok (.istore_n 3, 1) := by decide +kernel
theorem dX7_holdsOf_10 : decode cX7_holdsOf 10 = .ok (.aload_n 0, 1) := by decide +kernel
theorem dX7_holdsOf_11 : decode cX7_holdsOf 11 = .ok (.getfield 29, 3) := by decide +kernel
theorem dX7_holdsOf_14 : decode cX7_holdsOf 14 = .ok (.iload_n 1, 1) := by decide +kernel
theorem dX7_holdsOf_15 : decode cX7_holdsOf 15 = .ok (.iaload, 1) := by decide +kernel
theorem dX7_holdsOf_16 : decode cX7_holdsOf 16 = .ok (.iconst 5, 1) := by decide +kernel
theorem dX7_holdsOf_17 : decode cX7_holdsOf 17 = .ok (.if_icmp .ne 10, 3) := by decide +kernel
theorem dX7_holdsOf_20 : decode cX7_holdsOf 20 = .ok (.iload_n 3, 1) := by decide +kernel
theorem dX7_holdsOf_21 : decode cX7_holdsOf 21 = .ok (.bipush 40, 2) := by decide +kernel
theorem dX7_holdsOf_23 : decode cX7_holdsOf 23 = .ok (.iadd, 1) := by decide +kernel
theorem dX7_holdsOf_24 : decode cX7_holdsOf 24 = .ok (.goto 26, 3) := by decide +kernel
theorem dX7_holdsOf_27 : decode cX7_holdsOf 27 = .ok (.aload_n 0, 1) := by decide +kernel
theorem dX7_holdsOf_28 : decode cX7_holdsOf 28 = .ok (.getfield 29, 3) := by decide +kernel
theorem dX7_holdsOf_31 : decode cX7_holdsOf 31 = .ok (.iload_n 1, 1) := by decide +kernel
theorem dX7_holdsOf_32 : decode cX7_holdsOf 32 = .ok (.iaload, 1) := by decide +kernel
theorem dX7_holdsOf_33 : decode cX7_holdsOf 33 = .ok (.bipush 6, 2) := by decide +kernel
theorem dX7_holdsOf_35 : decode cX7_holdsOf 35 = .ok (.if_icmp .ne 14, 3) := by decide +kernel
theorem dX7_holdsOf_38 : decode cX7_holdsOf 38 = .ok (.iload_n 3, 1) := by decide +kernel
theorem dX7_holdsOf_39 : decode cX7_holdsOf 39 = .ok (.aload_n 0, 1) := by decide +kernel
theorem dX7_holdsOf_40 : decode cX7_holdsOf 40 = .ok (.getfield 32, 3) := by decide +kernel
theorem dX7_holdsOf_43 : decode cX7_holdsOf 43 = .ok (.iload_n 1, 1) := by decide +kernel
theorem dX7_holdsOf_44 : decode cX7_holdsOf 44 = .ok (.iaload, 1) := by decide +kernel
theorem dX7_holdsOf_45 : decode cX7_holdsOf 45 = .ok (.iadd, 1) := by decide +kernel
theorem dX7_holdsOf_46 : decode cX7_holdsOf 46 = .ok (.goto 4, 3) := by decide +kernel
theorem dX7_holdsOf_49 : decode cX7_holdsOf 49 = .ok (.iload_n 3, 1) := by decide +kernel
theorem dX7_holdsOf_50 : decode cX7_holdsOf 50 = .ok (.ireturn, 1) := by decide +kernel
theorem dX7_hangsOf_0 : decode cX7_hangsOf 0 = .ok (.iconst 0, 1) := by decide +kernel
theorem dX7_hangsOf_1 : decode cX7_hangsOf 1 = .ok (.istore_n 2, 1) := by decide +kernel
theorem dX7_hangsOf_2 : decode cX7_hangsOf 2 = .ok (.iconst 0, 1) := by decide +kernel
theorem dX7_hangsOf_3 : decode cX7_hangsOf 3 = .ok (.istore_n 3, 1) := by decide +kernel
theorem dX7_hangsOf_4 : decode cX7_hangsOf 4 = .ok (.iload_n 3, 1) := by decide +kernel
theorem dX7_hangsOf_5 : decode cX7_hangsOf 5 = .ok (.iload_n 1, 1) := by decide +kernel
theorem dX7_hangsOf_6 : decode cX7_hangsOf 6 = .ok (.if_icmp .ge 23, 3) := by decide +kernel
theorem dX7_hangsOf_9 : decode cX7_hangsOf 9 = .ok (.iload_n 2, 1) := by decide +kernel
theorem dX7_hangsOf_10 : decode cX7_hangsOf 10 = .ok (.iconst 1, 1) := by decide +kernel
theorem dX7_hangsOf_11 : decode cX7_hangsOf 11 = .ok (.aload_n 0, 1) := by decide +kernel
theorem dX7_hangsOf_12 : decode cX7_hangsOf 12 = .ok (.getfield 75, 3) := by decide +kernel
theorem dX7_hangsOf_15 : decode cX7_hangsOf 15 = .ok (.iload_n 3, 1) := by decide +kernel
theorem dX7_hangsOf_16 : decode cX7_hangsOf 16 = .ok (.iaload, 1) := by decide +kernel
theorem dX7_hangsOf_17 : decode cX7_hangsOf 17 = .ok (.bipush 20, 2) := by decide +kernel
theorem dX7_hangsOf_19 : decode cX7_hangsOf 19 = .ok (.idiv, 1) := by decide +kernel
theorem dX7_hangsOf_20 : decode cX7_hangsOf 20 = .ok (.iadd, 1) := by decide +kernel
theorem dX7_hangsOf_21 : decode cX7_hangsOf 21 = .ok (.iadd, 1) := by decide +kernel
theorem dX7_hangsOf_22 : decode cX7_hangsOf 22 = .ok (.istore_n 2, 1) := by decide +kernel
theorem dX7_hangsOf_23 : decode cX7_hangsOf 23 = .ok (.iinc 3 1, 3) := by decide +kernel
theorem dX7_hangsOf_26 : decode cX7_hangsOf 26 = .ok (.goto (-22), 3) := by decide +kernel
theorem dX7_hangsOf_29 : decode cX7_hangsOf 29 = .ok (.iload_n 2, 1) := by decide +kernel
theorem dX7_hangsOf_30 : decode cX7_hangsOf 30 = .ok (.ireturn, 1) := by decide +kernel
theorem dX7_breakOf_0 : decode cX7_breakOf 0 = .ok (.iconst 1, 1) := by decide +kernel
theorem dX7_breakOf_1 : decode cX7_breakOf 1 = .ok (.istore_n 2, 1) := by decide +kernel
theorem dX7_breakOf_2 : decode cX7_breakOf 2 = .ok (.iload_n 2, 1) := by decide +kernel
theorem dX7_breakOf_3 : decode cX7_breakOf 3 = .ok (.aload_n 0, 1) := by decide +kernel
theorem dX7_breakOf_4 : decode cX7_breakOf 4 = .ok (.getfield 177, 3) := by decide +kernel
theorem dX7_breakOf_7 : decode cX7_breakOf 7 = .ok (.if_icmp .ge 25, 3) := by decide +kernel
theorem dX7_breakOf_10 : decode cX7_breakOf 10 = .ok (.aload_n 0, 1) := by decide +kernel
theorem dX7_breakOf_11 : decode cX7_breakOf 11 = .ok (.iload_n 2, 1) := by decide +kernel
theorem dX7_breakOf_12 : decode cX7_breakOf 12 = .ok (.invokevirtual 189, 3) := by decide +kernel
theorem dX7_breakOf_15 : decode cX7_breakOf 15 = .ok (.aload_n 0, 1) := by decide +kernel
theorem dX7_breakOf_16 : decode cX7_breakOf 16 = .ok (.iload_n 1, 1) := by decide +kernel
theorem dX7_breakOf_17 : decode cX7_breakOf 17 = .ok (.iload_n 2, 1) := by decide +kernel
theorem dX7_breakOf_18 : decode cX7_breakOf 18 = .ok (.invokevirtual 192, 3) := by decide +kernel
theorem dX7_breakOf_21 : decode cX7_breakOf 21 = .ok (.if_icmp .le 5, 3) := by decide +kernel
theorem dX7_breakOf_24 : decode cX7_breakOf 24 = .ok (.iload_n 2, 1) := by decide +kernel
theorem dX7_breakOf_25 : decode cX7_breakOf 25 = .ok (.ireturn, 1) := by decide +kernel
theorem dX7_breakOf_26 : decode cX7_breakOf 26 = .ok (.iinc 2 1, 3) := by decide +kernel
theorem dX7_breakOf_29 : decode cX7_breakOf 29 = .ok (.goto (-27), 3) := by decide +kernel
theorem dX7_breakOf_32 : decode cX7_breakOf 32 = .ok (.iconst (-1), 1) := by decide +kernel
theorem dX7_breakOf_33 : decode cX7_breakOf 33 = .ok (.ireturn, 1) := by decide +kernel
theorem dX7_goesBy_0 : decode cX7_goesBy 0 = .ok (.iconst 0, 1) := by decide +kernel
theorem dX7_goesBy_1 : decode cX7_goesBy 1 = .ok (.istore_n 3, 1) := by decide +kernel
theorem dX7_goesBy_2 : decode cX7_goesBy 2 = .ok (.iload_n 3, 1) := by decide +kernel
theorem dX7_goesBy_3 : decode cX7_goesBy 3 = .ok (.aload_n 0, 1) := by decide +kernel
theorem dX7_goesBy_4 : decode cX7_goesBy 4 = .ok (.getfield 177, 3) := by decide +kernel
theorem dX7_goesBy_7 : decode cX7_goesBy 7 = .ok (.if_icmp .ge 184, 3) := by decide +kernel
theorem dX7_goesBy_10 : decode cX7_goesBy 10 = .ok (.iload_n 3, 1) := by decide +kernel
theorem dX7_goesBy_11 : decode cX7_goesBy 11 = .ok (.aload_n 0, 1) := by decide +kernel
theorem dX7_goesBy_12 : decode cX7_goesBy 12 = .ok (.getfield 196, 3) := by decide +kernel
theorem dX7_goesBy_15 : decode cX7_goesBy 15 = .ok (.if_icmp .ge 60, 3) := by decide +kernel
theorem dX7_goesBy_18 : decode cX7_goesBy 18 = .ok (.aload_n 0, 1) := by decide +kernel
theorem dX7_goesBy_19 : decode cX7_goesBy 19 = .ok (.iload_n 1, 1) := by decide +kernel
theorem dX7_goesBy_20 : decode cX7_goesBy 20 = .ok (.iload_n 3, 1) := by decide +kernel
theorem dX7_goesBy_21 : decode cX7_goesBy 21 = .ok (.aload_n 0, 1) := by decide +kernel
theorem dX7_goesBy_22 : decode cX7_goesBy 22 = .ok (.getfield 177, 3) := by decide +kernel
theorem dX7_goesBy_25 : decode cX7_goesBy 25 = .ok (.iload_n 2, 1) := by decide +kernel
theorem dX7_goesBy_26 : decode cX7_goesBy 26 = .ok (.invokevirtual 104, 3) := by decide +kernel
theorem dX7_goesBy_29 : decode cX7_goesBy 29 = .ok (.istore 4, 2) := by decide +kernel
theorem dX7_goesBy_31 : decode cX7_goesBy 31 = .ok (.aload_n 0, 1) := by decide +kernel
theorem dX7_goesBy_32 : decode cX7_goesBy 32 = .ok (.getfield 75, 3) := by decide +kernel
theorem dX7_goesBy_35 : decode cX7_goesBy 35 = .ok (.iload_n 3, 1) := by decide +kernel
theorem dX7_goesBy_36 : decode cX7_goesBy 36 = .ok (.iaload, 1) := by decide +kernel
theorem dX7_goesBy_37 : decode cX7_goesBy 37 = .ok (.iload 4, 2) := by decide +kernel
theorem dX7_goesBy_39 : decode cX7_goesBy 39 = .ok (.iadd, 1) := by decide +kernel
theorem dX7_goesBy_40 : decode cX7_goesBy 40 = .ok (.bipush 99, 2) := by decide +kernel
theorem dX7_goesBy_42 : decode cX7_goesBy 42 = .ok (.if_icmp .le 15, 3) := by decide +kernel
theorem dX7_goesBy_45 : decode cX7_goesBy 45 = .ok (.bipush 99, 2) := by decide +kernel
theorem dX7_goesBy_47 : decode cX7_goesBy 47 = .ok (.aload_n 0, 1) := by decide +kernel
theorem dX7_goesBy_48 : decode cX7_goesBy 48 = .ok (.getfield 75, 3) := by decide +kernel
theorem dX7_goesBy_51 : decode cX7_goesBy 51 = .ok (.iload_n 3, 1) := by decide +kernel
theorem dX7_goesBy_52 : decode cX7_goesBy 52 = .ok (.iaload, 1) := by decide +kernel
theorem dX7_goesBy_53 : decode cX7_goesBy 53 = .ok (.isub, 1) := by decide +kernel
theorem dX7_goesBy_54 : decode cX7_goesBy 54 = .ok (.goto 5, 3) := by decide +kernel
theorem dX7_goesBy_57 : decode cX7_goesBy 57 = .ok (.iload 4, 2) := by decide +kernel
theorem dX7_goesBy_59 : decode cX7_goesBy 59 = .ok (.istore 4, 2) := by decide +kernel
theorem dX7_goesBy_61 : decode cX7_goesBy 61 = .ok (.aload_n 0, 1) := by decide +kernel
theorem dX7_goesBy_62 : decode cX7_goesBy 62 = .ok (.dup, 1) := by decide +kernel
theorem dX7_goesBy_63 : decode cX7_goesBy 63 = .ok (.getfield 180, 3) := by decide +kernel
theorem dX7_goesBy_66 : decode cX7_goesBy 66 = .ok (.iload 4, 2) := by decide +kernel
theorem dX7_goesBy_68 : decode cX7_goesBy 68 = .ok (.iadd, 1) := by decide +kernel
theorem dX7_goesBy_69 : decode cX7_goesBy 69 = .ok (.putfield 180, 3) := by decide +kernel
theorem dX7_goesBy_72 : decode cX7_goesBy 72 = .ok (.goto 98, 3) := by decide +kernel
theorem dX7_goesBy_75 : decode cX7_goesBy 75 = .ok (.iload_n 3, 1) := by decide +kernel
theorem dX7_goesBy_76 : decode cX7_goesBy 76 = .ok (.ifCond .eq 20, 3) := by decide +kernel
theorem dX7_goesBy_79 : decode cX7_goesBy 79 = .ok (.aload_n 0, 1) := by decide +kernel
theorem dX7_goesBy_80 : decode cX7_goesBy 80 = .ok (.getfield 75, 3) := by decide +kernel
theorem dX7_goesBy_83 : decode cX7_goesBy 83 = .ok (.iload_n 3, 1) := by decide +kernel
theorem dX7_goesBy_84 : decode cX7_goesBy 84 = .ok (.iconst 1, 1) := by decide +kernel
theorem dX7_goesBy_85 : decode cX7_goesBy 85 = .ok (.isub, 1) := by decide +kernel
theorem dX7_goesBy_86 : decode cX7_goesBy 86 = .ok (.iaload, 1) := by decide +kernel
theorem dX7_goesBy_87 : decode cX7_goesBy 87 = .ok (.aload_n 0, 1) := by decide +kernel
theorem dX7_goesBy_88 : decode cX7_goesBy 88 = .ok (.getfield 75, 3) := by decide +kernel
theorem dX7_goesBy_91 : decode cX7_goesBy 91 = .ok (.iload_n 3, 1) := by decide +kernel
theorem dX7_goesBy_92 : decode cX7_goesBy 92 = .ok (.iaload, 1) := by decide +kernel
theorem dX7_goesBy_93 : decode cX7_goesBy 93 = .ok (.if_icmp .gt 7, 3) := by decide +kernel
theorem dX7_goesBy_96 : decode cX7_goesBy 96 = .ok (.iconst 0, 1) := by decide +kernel
theorem dX7_goesBy_97 : decode cX7_goesBy 97 = .ok (.goto 18, 3) := by decide +kernel
theorem dX7_goesBy_100 : decode cX7_goesBy 100 = .ok (.aload_n 0, 1) := by decide +kernel
theorem dX7_goesBy_101 : decode cX7_goesBy 101 = .ok (.getfield 75, 3) := by decide +kernel
theorem dX7_goesBy_104 : decode cX7_goesBy 104 = .ok (.iload_n 3, 1) := by decide +kernel
theorem dX7_goesBy_105 : decode cX7_goesBy 105 = .ok (.iconst 1, 1) := by decide +kernel
theorem dX7_goesBy_106 : decode cX7_goesBy 106 = .ok (.isub, 1) := by decide +kernel
theorem dX7_goesBy_107 : decode cX7_goesBy 107 = .ok (.iaload, 1) := by decide +kernel
theorem dX7_goesBy_108 : decode cX7_goesBy 108 = .ok (.aload_n 0, 1) := by decide +kernel
theorem dX7_goesBy_109 : decode cX7_goesBy 109 = .ok (.getfield 75, 3) := by decide +kernel
theorem dX7_goesBy_112 : decode cX7_goesBy 112 = .ok (.iload_n 3, 1) := by decide +kernel
theorem dX7_goesBy_113 : decode cX7_goesBy 113 = .ok (.iaload, 1) := by decide +kernel
theorem dX7_goesBy_114 : decode cX7_goesBy 114 = .ok (.isub, 1) := by decide +kernel
theorem dX7_goesBy_115 : decode cX7_goesBy 115 = .ok (.istore 4, 2) := by decide +kernel
theorem dX7_goesBy_117 : decode cX7_goesBy 117 = .ok (.aload_n 0, 1) := by decide +kernel
theorem dX7_goesBy_118 : decode cX7_goesBy 118 = .ok (.getfield 29, 3) := by decide +kernel
theorem dX7_goesBy_121 : decode cX7_goesBy 121 = .ok (.iload_n 1, 1) := by decide +kernel
theorem dX7_goesBy_122 : decode cX7_goesBy 122 = .ok (.iaload, 1) := by decide +kernel
theorem dX7_goesBy_123 : decode cX7_goesBy 123 = .ok (.iconst 3, 1) := by decide +kernel
theorem dX7_goesBy_124 : decode cX7_goesBy 124 = .ok (.if_icmp .ne 10, 3) := by decide +kernel
theorem dX7_goesBy_127 : decode cX7_goesBy 127 = .ok (.iload 4, 2) := by decide +kernel
theorem dX7_goesBy_129 : decode cX7_goesBy 129 = .ok (.iconst 2, 1) := by decide +kernel
theorem dX7_goesBy_130 : decode cX7_goesBy 130 = .ok (.idiv, 1) := by decide +kernel
theorem dX7_goesBy_131 : decode cX7_goesBy 131 = .ok (.goto 7, 3) := by decide +kernel
theorem dX7_goesBy_134 : decode cX7_goesBy 134 = .ok (.iload 4, 2) := by decide +kernel
theorem dX7_goesBy_136 : decode cX7_goesBy 136 = .ok (.iconst 4, 1) := by decide +kernel
theorem dX7_goesBy_137 : decode cX7_goesBy 137 = .ok (.idiv, 1) := by decide +kernel
theorem dX7_goesBy_138 : decode cX7_goesBy 138 = .ok (.istore 4, 2) := by decide +kernel
theorem dX7_goesBy_140 : decode cX7_goesBy 140 = .ok (.aload_n 0, 1) := by decide +kernel
theorem dX7_goesBy_141 : decode cX7_goesBy 141 = .ok (.getfield 75, 3) := by decide +kernel
theorem dX7_goesBy_144 : decode cX7_goesBy 144 = .ok (.iload_n 3, 1) := by decide +kernel
theorem dX7_goesBy_145 : decode cX7_goesBy 145 = .ok (.iaload, 1) := by decide +kernel
theorem dX7_goesBy_146 : decode cX7_goesBy 146 = .ok (.iload 4, 2) := by decide +kernel
theorem dX7_goesBy_148 : decode cX7_goesBy 148 = .ok (.iadd, 1) := by decide +kernel
theorem dX7_goesBy_149 : decode cX7_goesBy 149 = .ok (.bipush 99, 2) := by decide +kernel
theorem dX7_goesBy_151 : decode cX7_goesBy 151 = .ok (.if_icmp .le 15, 3) := by decide +kernel
theorem dX7_goesBy_154 : decode cX7_goesBy 154 = .ok (.bipush 99, 2) := by decide +kernel
theorem dX7_goesBy_156 : decode cX7_goesBy 156 = .ok (.aload_n 0, 1) := by decide +kernel
theorem dX7_goesBy_157 : decode cX7_goesBy 157 = .ok (.getfield 75, 3) := by decide +kernel
theorem dX7_goesBy_160 : decode cX7_goesBy 160 = .ok (.iload_n 3, 1) := by decide +kernel
theorem dX7_goesBy_161 : decode cX7_goesBy 161 = .ok (.iaload, 1) := by decide +kernel
theorem dX7_goesBy_162 : decode cX7_goesBy 162 = .ok (.isub, 1) := by decide +kernel
theorem dX7_goesBy_163 : decode cX7_goesBy 163 = .ok (.goto 5, 3) := by decide +kernel
theorem dX7_goesBy_166 : decode cX7_goesBy 166 = .ok (.iload 4, 2) := by decide +kernel
theorem dX7_goesBy_168 : decode cX7_goesBy 168 = .ok (.istore 4, 2) := by decide +kernel
theorem dX7_goesBy_170 : decode cX7_goesBy 170 = .ok (.aload_n 0, 1) := by decide +kernel
theorem dX7_goesBy_171 : decode cX7_goesBy 171 = .ok (.getfield 78, 3) := by decide +kernel
theorem dX7_goesBy_174 : decode cX7_goesBy 174 = .ok (.iload_n 3, 1) := by decide +kernel
theorem dX7_goesBy_175 : decode cX7_goesBy 175 = .ok (.aload_n 0, 1) := by decide +kernel
theorem dX7_goesBy_176 : decode cX7_goesBy 176 = .ok (.getfield 75, 3) := by decide +kernel
theorem dX7_goesBy_179 : decode cX7_goesBy 179 = .ok (.iload_n 3, 1) := by decide +kernel
theorem dX7_goesBy_180 : decode cX7_goesBy 180 = .ok (.iaload, 1) := by decide +kernel
theorem dX7_goesBy_181 : decode cX7_goesBy 181 = .ok (.iload 4, 2) := by decide +kernel
theorem dX7_goesBy_183 : decode cX7_goesBy 183 = .ok (.iadd, 1) := by decide +kernel
theorem dX7_goesBy_184 : decode cX7_goesBy 184 = .ok (.iastore, 1) := by decide +kernel
theorem dX7_goesBy_185 : decode cX7_goesBy 185 = .ok (.iinc 3 1, 3) := by decide +kernel
theorem dX7_goesBy_188 : decode cX7_goesBy 188 = .ok (.goto (-186), 3) := by decide +kernel
theorem dX7_goesBy_191 : decode cX7_goesBy 191 = .ok (.iconst 0, 1) := by decide +kernel
theorem dX7_goesBy_192 : decode cX7_goesBy 192 = .ok (.istore_n 3, 1) := by decide +kernel
theorem dX7_goesBy_193 : decode cX7_goesBy 193 = .ok (.iload_n 3, 1) := by decide +kernel
theorem dX7_goesBy_194 : decode cX7_goesBy 194 = .ok (.aload_n 0, 1) := by decide +kernel
theorem dX7_goesBy_195 : decode cX7_goesBy 195 = .ok (.getfield 177, 3) := by decide +kernel
theorem dX7_goesBy_198 : decode cX7_goesBy 198 = .ok (.if_icmp .ge 21, 3) := by decide +kernel
theorem dX7_goesBy_201 : decode cX7_goesBy 201 = .ok (.aload_n 0, 1) := by decide +kernel
theorem dX7_goesBy_202 : decode cX7_goesBy 202 = .ok (.getfield 75, 3) := by decide +kernel
theorem dX7_goesBy_205 : decode cX7_goesBy 205 = .ok (.iload_n 3, 1) := by decide +kernel
theorem dX7_goesBy_206 : decode cX7_goesBy 206 = .ok (.aload_n 0, 1) := by decide +kernel
theorem dX7_goesBy_207 : decode cX7_goesBy 207 = .ok (.getfield 78, 3) := by decide +kernel
theorem dX7_goesBy_210 : decode cX7_goesBy 210 = .ok (.iload_n 3, 1) := by decide +kernel
theorem dX7_goesBy_211 : decode cX7_goesBy 211 = .ok (.iaload, 1) := by decide +kernel
theorem dX7_goesBy_212 : decode cX7_goesBy 212 = .ok (.iastore, 1) := by decide +kernel
theorem dX7_goesBy_213 : decode cX7_goesBy 213 = .ok (.iinc 3 1, 3) := by decide +kernel
theorem dX7_goesBy_216 : decode cX7_goesBy 216 = .ok (.goto (-23), 3) := by decide +kernel
theorem dX7_goesBy_219 : decode cX7_goesBy 219 = .ok (.aload_n 0, 1) := by decide +kernel
theorem dX7_goesBy_220 : decode cX7_goesBy 220 = .ok (.iload_n 1, 1) := by decide +kernel
theorem dX7_goesBy_221 : decode cX7_goesBy 221 = .ok (.invokevirtual 199, 3) := by decide +kernel
theorem dX7_goesBy_224 : decode cX7_goesBy 224 = .ok (.istore_n 3, 1) := by decide +kernel
theorem dX7_goesBy_225 : decode cX7_goesBy 225 = .ok (.iload_n 3, 1) := by decide +kernel
theorem dX7_goesBy_226 : decode cX7_goesBy 226 = .ok (.iconst (-1), 1) := by decide +kernel
theorem dX7_goesBy_227 : decode cX7_goesBy 227 = .ok (.if_icmp .ne 4, 3) := by decide +kernel
theorem dX7_goesBy_230 : decode cX7_goesBy 230 = .ok (.return_, 1) := by decide +kernel
theorem dX7_goesBy_231 : decode cX7_goesBy 231 = .ok (.aload_n 0, 1) := by decide +kernel
theorem dX7_goesBy_232 : decode cX7_goesBy 232 = .ok (.dup, 1) := by decide +kernel
theorem dX7_goesBy_233 : decode cX7_goesBy 233 = .ok (.getfield 177, 3) := by decide +kernel
theorem dX7_goesBy_236 : decode cX7_goesBy 236 = .ok (.iload_n 3, 1) := by decide +kernel
theorem dX7_goesBy_237 : decode cX7_goesBy 237 = .ok (.isub, 1) := by decide +kernel
theorem dX7_goesBy_238 : decode cX7_goesBy 238 = .ok (.putfield 177, 3) := by decide +kernel
theorem dX7_goesBy_241 : decode cX7_goesBy 241 = .ok (.iconst 0, 1) := by decide +kernel
theorem dX7_goesBy_242 : decode cX7_goesBy 242 = .ok (.istore 4, 2) := by decide +kernel
theorem dX7_goesBy_244 : decode cX7_goesBy 244 = .ok (.iload 4, 2) := by decide +kernel
theorem dX7_goesBy_246 : decode cX7_goesBy 246 = .ok (.aload_n 0, 1) := by decide +kernel
theorem dX7_goesBy_247 : decode cX7_goesBy 247 = .ok (.getfield 177, 3) := by decide +kernel
theorem dX7_goesBy_250 : decode cX7_goesBy 250 = .ok (.if_icmp .ge 25, 3) := by decide +kernel
theorem dX7_goesBy_253 : decode cX7_goesBy 253 = .ok (.aload_n 0, 1) := by decide +kernel
theorem dX7_goesBy_254 : decode cX7_goesBy 254 = .ok (.getfield 75, 3) := by decide +kernel
theorem dX7_goesBy_257 : decode cX7_goesBy 257 = .ok (.iload 4, 2) := by decide +kernel
theorem dX7_goesBy_259 : decode cX7_goesBy 259 = .ok (.aload_n 0, 1) := by decide +kernel
theorem dX7_goesBy_260 : decode cX7_goesBy 260 = .ok (.getfield 75, 3) := by decide +kernel
theorem dX7_goesBy_263 : decode cX7_goesBy 263 = .ok (.iload 4, 2) := by decide +kernel
theorem dX7_goesBy_265 : decode cX7_goesBy 265 = .ok (.iload_n 3, 1) := by decide +kernel
theorem dX7_goesBy_266 : decode cX7_goesBy 266 = .ok (.iadd, 1) := by decide +kernel
theorem dX7_goesBy_267 : decode cX7_goesBy 267 = .ok (.iaload, 1) := by decide +kernel
theorem dX7_goesBy_268 : decode cX7_goesBy 268 = .ok (.iastore, 1) := by decide +kernel
theorem dX7_goesBy_269 : decode cX7_goesBy 269 = .ok (.iinc 4 1, 3) := by decide +kernel
theorem dX7_goesBy_272 : decode cX7_goesBy 272 = .ok (.goto (-28), 3) := by decide +kernel
theorem dX7_goesBy_275 : decode cX7_goesBy 275 = .ok (.aload_n 0, 1) := by decide +kernel
theorem dX7_goesBy_276 : decode cX7_goesBy 276 = .ok (.aload_n 0, 1) := by decide +kernel
theorem dX7_goesBy_277 : decode cX7_goesBy 277 = .ok (.getfield 196, 3) := by decide +kernel
theorem dX7_goesBy_280 : decode cX7_goesBy 280 = .ok (.iload_n 3, 1) := by decide +kernel
theorem dX7_goesBy_281 : decode cX7_goesBy 281 = .ok (.if_icmp .le 12, 3) := by decide +kernel
theorem dX7_goesBy_284 : decode cX7_goesBy 284 = .ok (.aload_n 0, 1) := by decide +kernel
theorem dX7_goesBy_285 : decode cX7_goesBy 285 = .ok (.getfield 196, 3) := by decide +kernel
theorem dX7_goesBy_288 : decode cX7_goesBy 288 = .ok (.iload_n 3, 1) := by decide +kernel
theorem dX7_goesBy_289 : decode cX7_goesBy 289 = .ok (.isub, 1) := by decide +kernel
theorem dX7_goesBy_290 : decode cX7_goesBy 290 = .ok (.goto 4, 3) := by decide +kernel
theorem dX7_goesBy_293 : decode cX7_goesBy 293 = .ok (.iconst 0, 1) := by decide +kernel
theorem dX7_goesBy_294 : decode cX7_goesBy 294 = .ok (.putfield 196, 3) := by decide +kernel
theorem dX7_goesBy_297 : decode cX7_goesBy 297 = .ok (.aload_n 0, 1) := by decide +kernel
theorem dX7_goesBy_298 : decode cX7_goesBy 298 = .ok (.dup, 1) := by decide +kernel
theorem dX7_goesBy_299 : decode cX7_goesBy 299 = .ok (.getfield 183, 3) := by decide +kernel
theorem dX7_goesBy_302 : decode cX7_goesBy 302 = .ok (.iload_n 3, 1) := by decide +kernel
theorem dX7_goesBy_303 : decode cX7_goesBy 303 = .ok (.iadd, 1) := by decide +kernel
theorem dX7_goesBy_304 : decode cX7_goesBy 304 = .ok (.putfield 183, 3) := by decide +kernel
theorem dX7_goesBy_307 : decode cX7_goesBy 307 = .ok (.return_, 1) := by decide +kernel
theorem dX7_dunks_0 : decode cX7_dunks 0 = .ok (.aload_n 0, 1) := by decide +kernel
theorem dX7_dunks_1 : decode cX7_dunks 1 = .ok (.iload_n 2, 1) := by decide +kernel
theorem dX7_dunks_2 : decode cX7_dunks 2 = .ok (.aload_n 0, 1) := by decide +kernel
theorem dX7_dunks_3 : decode cX7_dunks 3 = .ok (.getfield 177, 3) := by decide +kernel
theorem dX7_dunks_6 : decode cX7_dunks 6 = .ok (.if_icmp .ge 7, 3) := by decide +kernel
theorem dX7_dunks_9 : decode cX7_dunks 9 = .ok (.iload_n 2, 1) := by decide +kernel
theorem dX7_dunks_10 : decode cX7_dunks 10 = .ok (.goto 7, 3) := by decide +kernel
theorem dX7_dunks_13 : decode cX7_dunks 13 = .ok (.aload_n 0, 1) := by decide +kernel
theorem dX7_dunks_14 : decode cX7_dunks 14 = .ok (.getfield 177, 3) := by decide +kernel
theorem dX7_dunks_17 : decode cX7_dunks 17 = .ok (.putfield 196, 3) := by decide +kernel
theorem dX7_dunks_20 : decode cX7_dunks 20 = .ok (.iconst 1, 1) := by decide +kernel
theorem dX7_dunks_21 : decode cX7_dunks 21 = .ok (.istore 6, 2) := by decide +kernel
theorem dX7_dunks_23 : decode cX7_dunks 23 = .ok (.iload 6, 2) := by decide +kernel
theorem dX7_dunks_25 : decode cX7_dunks 25 = .ok (.iload_n 3, 1) := by decide +kernel
theorem dX7_dunks_26 : decode cX7_dunks 26 = .ok (.if_icmp .gt 40, 3) := by decide +kernel
theorem dX7_dunks_29 : decode cX7_dunks 29 = .ok (.aload_n 0, 1) := by decide +kernel
theorem dX7_dunks_30 : decode cX7_dunks 30 = .ok (.iload_n 1, 1) := by decide +kernel
theorem dX7_dunks_31 : decode cX7_dunks 31 = .ok (.iload 4, 2) := by decide +kernel
theorem dX7_dunks_33 : decode cX7_dunks 33 = .ok (.invokevirtual 202, 3) := by decide +kernel
theorem dX7_dunks_36 : decode cX7_dunks 36 = .ok (.aload_n 0, 1) := by decide +kernel
theorem dX7_dunks_37 : decode cX7_dunks 37 = .ok (.getfield 183, 3) := by decide +kernel
theorem dX7_dunks_40 : decode cX7_dunks 40 = .ok (.ifCond .le 20, 3) := by decide +kernel
theorem dX7_dunks_43 : decode cX7_dunks 43 = .ok (.aload_n 0, 1) := by decide +kernel
theorem dX7_dunks_44 : decode cX7_dunks 44 = .ok (.getfield 186, 3) := by decide +kernel
theorem dX7_dunks_47 : decode cX7_dunks 47 = .ok (.iconst (-1), 1) := by decide +kernel
theorem dX7_dunks_48 : decode cX7_dunks 48 = .ok (.if_icmp .ne 12, 3) := by decide +kernel
theorem dX7_dunks_51 : decode cX7_dunks 51 = .ok (.aload_n 0, 1) := by decide +kernel
theorem dX7_dunks_52 : decode cX7_dunks 52 = .ok (.iload 5, 2) := by decide +kernel
theorem dX7_dunks_54 : decode cX7_dunks 54 = .ok (.iload 6, 2) := by decide +kernel
theorem dX7_dunks_56 : decode cX7_dunks 56 = .ok (.iadd, 1) := by decide +kernel
theorem dX7_dunks_57 : decode cX7_dunks 57 = .ok (.putfield 186, 3) := by decide +kernel
theorem dX7_dunks_60 : decode cX7_dunks 60 = .ok (.iinc 6 1, 3) := by decide +kernel
theorem dX7_dunks_63 : decode cX7_dunks 63 = .ok (.goto (-40), 3) := by decide +kernel
theorem dX7_dunks_66 : decode cX7_dunks 66 = .ok (.return_, 1) := by decide +kernel
theorem dX7_tries_0 : decode cX7_tries 0 = .ok (.aload_n 0, 1) := by decide +kernel
theorem dX7_tries_1 : decode cX7_tries 1 = .ok (.iload_n 1, 1) := by decide +kernel
theorem dX7_tries_2 : decode cX7_tries 2 = .ok (.invokevirtual 206, 3) := by decide +kernel
theorem dX7_tries_5 : decode cX7_tries 5 = .ok (.aload_n 0, 1) := by decide +kernel
theorem dX7_tries_6 : decode cX7_tries 6 = .ok (.iload_n 1, 1) := by decide +kernel
theorem dX7_tries_7 : decode cX7_tries 7 = .ok (.iload_n 2, 1) := by decide +kernel
theorem dX7_tries_8 : decode cX7_tries 8 = .ok (.iload_n 3, 1) := by decide +kernel
theorem dX7_tries_9 : decode cX7_tries 9 = .ok (.iload 5, 2) := by decide +kernel
theorem dX7_tries_11 : decode cX7_tries 11 = .ok (.iconst 0, 1) := by decide +kernel
theorem dX7_tries_12 : decode cX7_tries 12 = .ok (.invokevirtual 210, 3) := by decide +kernel
theorem dX7_tries_15 : decode cX7_tries 15 = .ok (.aload_n 0, 1) := by decide +kernel
theorem dX7_tries_16 : decode cX7_tries 16 = .ok (.iload_n 1, 1) := by decide +kernel
theorem dX7_tries_17 : decode cX7_tries 17 = .ok (.iconst 0, 1) := by decide +kernel
theorem dX7_tries_18 : decode cX7_tries 18 = .ok (.iload 4, 2) := by decide +kernel
theorem dX7_tries_20 : decode cX7_tries 20 = .ok (.iload 5, 2) := by decide +kernel
theorem dX7_tries_22 : decode cX7_tries 22 = .ok (.iload_n 3, 1) := by decide +kernel
theorem dX7_tries_23 : decode cX7_tries 23 = .ok (.invokevirtual 210, 3) := by decide +kernel
theorem dX7_tries_26 : decode cX7_tries 26 = .ok (.return_, 1) := by decide +kernel
theorem dX7_worthNow_0 : decode cX7_worthNow 0 = .ok (.iconst 0, 1) := by decide +kernel
theorem dX7_worthNow_1 : decode cX7_worthNow 1 = .ok (.istore_n 1, 1) := by decide +kernel
theorem dX7_worthNow_2 : decode cX7_worthNow 2 = .ok (.iconst 0, 1) := by decide +kernel
theorem dX7_worthNow_3 : decode cX7_worthNow 3 = .ok (.istore_n 2, 1) := by decide +kernel
theorem dX7_worthNow_4 : decode cX7_worthNow 4 = .ok (.iload_n 2, 1) := by decide +kernel
theorem dX7_worthNow_5 : decode cX7_worthNow 5 = .ok (.aload_n 0, 1) := by decide +kernel
theorem dX7_worthNow_6 : decode cX7_worthNow 6 = .ok (.getfield 177, 3) := by decide +kernel
theorem dX7_worthNow_9 : decode cX7_worthNow 9 = .ok (.if_icmp .ge 26, 3) := by decide +kernel
theorem dX7_worthNow_12 : decode cX7_worthNow 12 = .ok (.iload_n 1, 1) := by decide +kernel
theorem dX7_worthNow_13 : decode cX7_worthNow 13 = .ok (.aload_n 0, 1) := by decide +kernel
theorem dX7_worthNow_14 : decode cX7_worthNow 14 = .ok (.getfield 41, 3) := by decide +kernel
theorem dX7_worthNow_17 : decode cX7_worthNow 17 = .ok (.aload_n 0, 1) := by decide +kernel
theorem dX7_worthNow_18 : decode cX7_worthNow 18 = .ok (.getfield 75, 3) := by decide +kernel
theorem dX7_worthNow_21 : decode cX7_worthNow 21 = .ok (.iload_n 2, 1) := by decide +kernel
theorem dX7_worthNow_22 : decode cX7_worthNow 22 = .ok (.iaload, 1) := by decide +kernel
theorem dX7_worthNow_23 : decode cX7_worthNow 23 = .ok (.bipush 10, 2) := by decide +kernel
theorem dX7_worthNow_25 : decode cX7_worthNow 25 = .ok (.idiv, 1) := by decide +kernel
theorem dX7_worthNow_26 : decode cX7_worthNow 26 = .ok (.iaload, 1) := by decide +kernel
theorem dX7_worthNow_27 : decode cX7_worthNow 27 = .ok (.iadd, 1) := by decide +kernel
theorem dX7_worthNow_28 : decode cX7_worthNow 28 = .ok (.istore_n 1, 1) := by decide +kernel
theorem dX7_worthNow_29 : decode cX7_worthNow 29 = .ok (.iinc 2 1, 3) := by decide +kernel
theorem dX7_worthNow_32 : decode cX7_worthNow 32 = .ok (.goto (-28), 3) := by decide +kernel
theorem dX7_worthNow_35 : decode cX7_worthNow 35 = .ok (.iload_n 1, 1) := by decide +kernel
theorem dX7_worthNow_36 : decode cX7_worthNow 36 = .ok (.ireturn, 1) := by decide +kernel
theorem dX7_soak_0 : decode cX7_soak 0 = .ok (.aload_n 0, 1) := by decide +kernel
theorem dX7_soak_1 : decode cX7_soak 1 = .ok (.iload_n 1, 1) := by decide +kernel
theorem dX7_soak_2 : decode cX7_soak 2 = .ok (.iload_n 2, 1) := by decide +kernel
theorem dX7_soak_3 : decode cX7_soak 3 = .ok (.invokevirtual 112, 3) := by decide +kernel
theorem dX7_soak_6 : decode cX7_soak 6 = .ok (.ifCond .eq 22, 3) := by decide +kernel
theorem dX7_soak_9 : decode cX7_soak 9 = .ok (.aload_n 0, 1) := by decide +kernel
theorem dX7_soak_10 : decode cX7_soak 10 = .ok (.iload_n 1, 1) := by decide +kernel
theorem dX7_soak_11 : decode cX7_soak 11 = .ok (.iload_n 2, 1) := by decide +kernel
theorem dX7_soak_12 : decode cX7_soak 12 = .ok (.aload_n 0, 1) := by decide +kernel
theorem dX7_soak_13 : decode cX7_soak 13 = .ok (.getfield 35, 3) := by decide +kernel
theorem dX7_soak_16 : decode cX7_soak 16 = .ok (.iload_n 1, 1) := by decide +kernel
theorem dX7_soak_17 : decode cX7_soak 17 = .ok (.iaload, 1) := by decide +kernel
theorem dX7_soak_18 : decode cX7_soak 18 = .ok (.aload_n 0, 1) := by decide +kernel
theorem dX7_soak_19 : decode cX7_soak 19 = .ok (.getfield 7, 3) := by decide +kernel
theorem dX7_soak_22 : decode cX7_soak 22 = .ok (.invokevirtual 104, 3) := by decide +kernel
theorem dX7_soak_25 : decode cX7_soak 25 = .ok (.goto 8, 3) := by decide +kernel
theorem dX7_soak_28 : decode cX7_soak 28 = .ok (.aload_n 0, 1) := by decide +kernel
theorem dX7_soak_29 : decode cX7_soak 29 = .ok (.iconst (-1), 1) := by decide +kernel
theorem dX7_soak_30 : decode cX7_soak 30 = .ok (.invokevirtual 100, 3) := by decide +kernel
theorem dX7_soak_33 : decode cX7_soak 33 = .ok (.ireturn, 1) := by decide +kernel
theorem dX7_cellOf_0 : decode cX7_cellOf 0 = .ok (.aload_n 0, 1) := by decide +kernel
theorem dX7_cellOf_1 : decode cX7_cellOf 1 = .ok (.iload_n 1, 1) := by decide +kernel
theorem dX7_cellOf_2 : decode cX7_cellOf 2 = .ok (.iload_n 2, 1) := by decide +kernel
theorem dX7_cellOf_3 : decode cX7_cellOf 3 = .ok (.invokevirtual 112, 3) := by decide +kernel
theorem dX7_cellOf_6 : decode cX7_cellOf 6 = .ok (.ifCond .ne 9, 3) := by decide +kernel
theorem dX7_cellOf_9 : decode cX7_cellOf 9 = .ok (.aload_n 0, 1) := by decide +kernel
theorem dX7_cellOf_10 : decode cX7_cellOf 10 = .ok (.iconst (-1), 1) := by decide +kernel
theorem dX7_cellOf_11 : decode cX7_cellOf 11 = .ok (.invokevirtual 214, 3) := by decide +kernel
theorem dX7_cellOf_14 : decode cX7_cellOf 14 = .ok (.ireturn, 1) := by decide +kernel
theorem dX7_cellOf_15 : decode cX7_cellOf 15 = .ok (.iload_n 3, 1) := by decide +kernel
theorem dX7_cellOf_16 : decode cX7_cellOf 16 = .ok (.ifCond .lt 8, 3) := by decide +kernel
theorem dX7_cellOf_19 : decode cX7_cellOf 19 = .ok (.iload_n 3, 1) := by decide +kernel
theorem dX7_cellOf_20 : decode cX7_cellOf 20 = .ok (.iconst 1, 1) := by decide +kernel
theorem dX7_cellOf_21 : decode cX7_cellOf 21 = .ok (.if_icmp .le 10, 3) := by decide +kernel
theorem dX7_cellOf_24 : decode cX7_cellOf 24 = .ok (.aload_n 0, 1) := by decide +kernel
theorem dX7_cellOf_25 : decode cX7_cellOf 25 = .ok (.bipush (-5), 2) := by decide +kernel
theorem dX7_cellOf_27 : decode cX7_cellOf 27 = .ok (.invokevirtual 214, 3) := by decide +kernel
theorem dX7_cellOf_30 : decode cX7_cellOf 30 = .ok (.ireturn, 1) := by decide +kernel
theorem dX7_cellOf_31 : decode cX7_cellOf 31 = .ok (.aload_n 0, 1) := by decide +kernel
theorem dX7_cellOf_32 : decode cX7_cellOf 32 = .ok (.iload_n 1, 1) := by decide +kernel
theorem dX7_cellOf_33 : decode cX7_cellOf 33 = .ok (.invokevirtual 206, 3) := by decide +kernel
theorem dX7_cellOf_36 : decode cX7_cellOf 36 = .ok (.iload_n 3, 1) := by decide +kernel
theorem dX7_cellOf_37 : decode cX7_cellOf 37 = .ok (.ifCond .ne 12, 3) := by decide +kernel
theorem dX7_cellOf_40 : decode cX7_cellOf 40 = .ok (.aload_n 0, 1) := by decide +kernel
theorem dX7_cellOf_41 : decode cX7_cellOf 41 = .ok (.iload_n 1, 1) := by decide +kernel
theorem dX7_cellOf_42 : decode cX7_cellOf 42 = .ok (.iload_n 2, 1) := by decide +kernel
theorem dX7_cellOf_43 : decode cX7_cellOf 43 = .ok (.invokevirtual 192, 3) := by decide +kernel
theorem dX7_cellOf_46 : decode cX7_cellOf 46 = .ok (.goto 8, 3) := by decide +kernel
theorem dX7_cellOf_49 : decode cX7_cellOf 49 = .ok (.aload_n 0, 1) := by decide +kernel
theorem dX7_cellOf_50 : decode cX7_cellOf 50 = .ok (.iload_n 2, 1) := by decide +kernel
theorem dX7_cellOf_51 : decode cX7_cellOf 51 = .ok (.invokevirtual 189, 3) := by decide +kernel
theorem dX7_cellOf_54 : decode cX7_cellOf 54 = .ok (.ireturn, 1) := by decide +kernel
theorem dX7_breaks_0 : decode cX7_breaks 0 = .ok (.aload_n 0, 1) := by decide +kernel
theorem dX7_breaks_1 : decode cX7_breaks 1 = .ok (.iload_n 1, 1) := by decide +kernel
theorem dX7_breaks_2 : decode cX7_breaks 2 = .ok (.invokevirtual 93, 3) := by decide +kernel
theorem dX7_breaks_5 : decode cX7_breaks 5 = .ok (.ifCond .ne 9, 3) := by decide +kernel
theorem dX7_breaks_8 : decode cX7_breaks 8 = .ok (.aload_n 0, 1) := by decide +kernel
theorem dX7_breaks_9 : decode cX7_breaks 9 = .ok (.iconst (-1), 1) := by decide +kernel
theorem dX7_breaks_10 : decode cX7_breaks 10 = .ok (.invokevirtual 217, 3) := by decide +kernel
theorem dX7_breaks_13 : decode cX7_breaks 13 = .ok (.ireturn, 1) := by decide +kernel
theorem dX7_breaks_14 : decode cX7_breaks 14 = .ok (.aload_n 0, 1) := by decide +kernel
theorem dX7_breaks_15 : decode cX7_breaks 15 = .ok (.iload_n 1, 1) := by decide +kernel
theorem dX7_breaks_16 : decode cX7_breaks 16 = .ok (.invokevirtual 206, 3) := by decide +kernel
theorem dX7_breaks_19 : decode cX7_breaks 19 = .ok (.aload_n 0, 1) := by decide +kernel
theorem dX7_breaks_20 : decode cX7_breaks 20 = .ok (.iload_n 1, 1) := by decide +kernel
theorem dX7_breaks_21 : decode cX7_breaks 21 = .ok (.invokevirtual 199, 3) := by decide +kernel
theorem dX7_breaks_24 : decode cX7_breaks 24 = .ok (.ireturn, 1) := by decide +kernel
theorem dX7_may_0 : decode cX7_may 0 = .ok (.aload_n 0, 1) := by decide +kernel
theorem dX7_may_1 : decode cX7_may 1 = .ok (.iload_n 1, 1) := by decide +kernel
theorem dX7_may_2 : decode cX7_may 2 = .ok (.invokevirtual 220, 3) := by decide +kernel
theorem dX7_may_5 : decode cX7_may 5 = .ok (.ifCond .eq 23, 3) := by decide +kernel
theorem dX7_may_8 : decode cX7_may 8 = .ok (.aload_n 0, 1) := by decide +kernel
theorem dX7_may_9 : decode cX7_may 9 = .ok (.iload_n 2, 1) := by decide +kernel
theorem dX7_may_10 : decode cX7_may 10 = .ok (.invokevirtual 223, 3) := by decide +kernel
theorem dX7_may_13 : decode cX7_may 13 = .ok (.ifCond .eq 15, 3) := by decide +kernel
theorem dX7_may_16 : decode cX7_may 16 = .ok (.aload_n 0, 1) := by decide +kernel
theorem dX7_may_17 : decode cX7_may 17 = .ok (.iload_n 3, 1) := by decide +kernel
theorem dX7_may_18 : decode cX7_may 18 = .ok (.invokevirtual 223, 3) := by decide +kernel
theorem dX7_may_21 : decode cX7_may 21 = .ok (.ifCond .eq 7, 3) := by decide +kernel
theorem dX7_may_24 : decode cX7_may 24 = .ok (.iconst 1, 1) := by decide +kernel
theorem dX7_may_25 : decode cX7_may 25 = .ok (.goto 4, 3) := by decide +kernel
theorem dX7_may_28 : decode cX7_may 28 = .ok (.iconst 0, 1) := by decide +kernel
theorem dX7_may_29 : decode cX7_may 29 = .ok (.ireturn, 1) := by decide +kernel
theorem dX7_left_0 : decode cX7_left 0 = .ok (.aload_n 0, 1) := by decide +kernel
theorem dX7_left_1 : decode cX7_left 1 = .ok (.iload_n 1, 1) := by decide +kernel
theorem dX7_left_2 : decode cX7_left 2 = .ok (.invokevirtual 93, 3) := by decide +kernel
theorem dX7_left_5 : decode cX7_left 5 = .ok (.ifCond .ne 9, 3) := by decide +kernel
theorem dX7_left_8 : decode cX7_left 8 = .ok (.aload_n 0, 1) := by decide +kernel
theorem dX7_left_9 : decode cX7_left 9 = .ok (.iconst (-1), 1) := by decide +kernel
theorem dX7_left_10 : decode cX7_left 10 = .ok (.invokevirtual 100, 3) := by decide +kernel
theorem dX7_left_13 : decode cX7_left 13 = .ok (.ireturn, 1) := by decide +kernel
theorem dX7_left_14 : decode cX7_left 14 = .ok (.aload_n 0, 1) := by decide +kernel
theorem dX7_left_15 : decode cX7_left 15 = .ok (.iload_n 2, 1) := by decide +kernel
theorem dX7_left_16 : decode cX7_left 16 = .ok (.iload_n 3, 1) := by decide +kernel
theorem dX7_left_17 : decode cX7_left 17 = .ok (.iload 4, 2) := by decide +kernel
theorem dX7_left_19 : decode cX7_left 19 = .ok (.invokevirtual 226, 3) := by decide +kernel
theorem dX7_left_22 : decode cX7_left 22 = .ok (.ifCond .ne 10, 3) := by decide +kernel
theorem dX7_left_25 : decode cX7_left 25 = .ok (.aload_n 0, 1) := by decide +kernel
theorem dX7_left_26 : decode cX7_left 26 = .ok (.bipush (-6), 2) := by decide +kernel
theorem dX7_left_28 : decode cX7_left 28 = .ok (.invokevirtual 100, 3) := by decide +kernel
theorem dX7_left_31 : decode cX7_left 31 = .ok (.ireturn, 1) := by decide +kernel
theorem dX7_left_32 : decode cX7_left 32 = .ok (.aload_n 0, 1) := by decide +kernel
theorem dX7_left_33 : decode cX7_left 33 = .ok (.iload_n 1, 1) := by decide +kernel
theorem dX7_left_34 : decode cX7_left 34 = .ok (.iload_n 2, 1) := by decide +kernel
theorem dX7_left_35 : decode cX7_left 35 = .ok (.iload_n 3, 1) := by decide +kernel
theorem dX7_left_36 : decode cX7_left 36 = .ok (.iload 4, 2) := by decide +kernel
theorem dX7_left_38 : decode cX7_left 38 = .ok (.aload_n 0, 1) := by decide +kernel
theorem dX7_left_39 : decode cX7_left 39 = .ok (.getfield 7, 3) := by decide +kernel
theorem dX7_left_42 : decode cX7_left 42 = .ok (.invokevirtual 230, 3) := by decide +kernel
theorem dX7_left_45 : decode cX7_left 45 = .ok (.aload_n 0, 1) := by decide +kernel
theorem dX7_left_46 : decode cX7_left 46 = .ok (.getfield 177, 3) := by decide +kernel
theorem dX7_left_49 : decode cX7_left 49 = .ok (.ireturn, 1) := by decide +kernel
theorem dX7_wetness_0 : decode cX7_wetness 0 = .ok (.aload_n 0, 1) := by decide +kernel
theorem dX7_wetness_1 : decode cX7_wetness 1 = .ok (.iload_n 1, 1) := by decide +kernel
theorem dX7_wetness_2 : decode cX7_wetness 2 = .ok (.invokevirtual 93, 3) := by decide +kernel
theorem dX7_wetness_5 : decode cX7_wetness 5 = .ok (.ifCond .ne 9, 3) := by decide +kernel
theorem dX7_wetness_8 : decode cX7_wetness 8 = .ok (.aload_n 0, 1) := by decide +kernel
theorem dX7_wetness_9 : decode cX7_wetness 9 = .ok (.iconst (-1), 1) := by decide +kernel
theorem dX7_wetness_10 : decode cX7_wetness 10 = .ok (.invokevirtual 100, 3) := by decide +kernel
theorem dX7_wetness_13 : decode cX7_wetness 13 = .ok (.ireturn, 1) := by decide +kernel
theorem dX7_wetness_14 : decode cX7_wetness 14 = .ok (.iload 5, 2) := by decide +kernel
theorem dX7_wetness_16 : decode cX7_wetness 16 = .ok (.ifCond .ge 10, 3) := by decide +kernel
theorem dX7_wetness_19 : decode cX7_wetness 19 = .ok (.aload_n 0, 1) := by decide +kernel
theorem dX7_wetness_20 : decode cX7_wetness 20 = .ok (.bipush (-5), 2) := by decide +kernel
theorem dX7_wetness_22 : decode cX7_wetness 22 = .ok (.invokevirtual 100, 3) := by decide +kernel
theorem dX7_wetness_25 : decode cX7_wetness 25 = .ok (.ireturn, 1) := by decide +kernel
theorem dX7_wetness_26 : decode cX7_wetness 26 = .ok (.aload_n 0, 1) := by decide +kernel
theorem dX7_wetness_27 : decode cX7_wetness 27 = .ok (.iload_n 2, 1) := by decide +kernel
theorem dX7_wetness_28 : decode cX7_wetness 28 = .ok (.iload_n 3, 1) := by decide +kernel
theorem dX7_wetness_29 : decode cX7_wetness 29 = .ok (.iload 4, 2) := by decide +kernel
theorem dX7_wetness_31 : decode cX7_wetness 31 = .ok (.invokevirtual 226, 3) := by decide +kernel
theorem dX7_wetness_34 : decode cX7_wetness 34 = .ok (.ifCond .ne 10, 3) := by decide +kernel
theorem dX7_wetness_37 : decode cX7_wetness 37 = .ok (.aload_n 0, 1) := by decide +kernel
theorem dX7_wetness_38 : decode cX7_wetness 38 = .ok (.bipush (-6), 2) := by decide +kernel
theorem dX7_wetness_40 : decode cX7_wetness 40 = .ok (.invokevirtual 100, 3) := by decide +kernel
theorem dX7_wetness_43 : decode cX7_wetness 43 = .ok (.ireturn, 1) := by decide +kernel
theorem dX7_wetness_44 : decode cX7_wetness 44 = .ok (.aload_n 0, 1) := by decide +kernel
theorem dX7_wetness_45 : decode cX7_wetness 45 = .ok (.iload_n 1, 1) := by decide +kernel
theorem dX7_wetness_46 : decode cX7_wetness 46 = .ok (.iload_n 2, 1) := by decide +kernel
theorem dX7_wetness_47 : decode cX7_wetness 47 = .ok (.iload_n 3, 1) := by decide +kernel
theorem dX7_wetness_48 : decode cX7_wetness 48 = .ok (.iload 4, 2) := by decide +kernel
theorem dX7_wetness_50 : decode cX7_wetness 50 = .ok (.aload_n 0, 1) := by decide +kernel
theorem dX7_wetness_51 : decode cX7_wetness 51 = .ok (.getfield 7, 3) := by decide +kernel
theorem dX7_wetness_54 : decode cX7_wetness 54 = .ok (.invokevirtual 230, 3) := by decide +kernel
theorem dX7_wetness_57 : decode cX7_wetness 57 = .ok (.iload 5, 2) := by decide +kernel
theorem dX7_wetness_59 : decode cX7_wetness 59 = .ok (.aload_n 0, 1) := by decide +kernel
theorem dX7_wetness_60 : decode cX7_wetness 60 = .ok (.getfield 177, 3) := by decide +kernel
theorem dX7_wetness_63 : decode cX7_wetness 63 = .ok (.if_icmp .ge 13, 3) := by decide +kernel
theorem dX7_wetness_66 : decode cX7_wetness 66 = .ok (.aload_n 0, 1) := by decide +kernel
theorem dX7_wetness_67 : decode cX7_wetness 67 = .ok (.getfield 75, 3) := by decide +kernel
theorem dX7_wetness_70 : decode cX7_wetness 70 = .ok (.iload 5, 2) := by decide +kernel
theorem dX7_wetness_72 : decode cX7_wetness 72 = .ok (.iaload, 1) := by decide +kernel
theorem dX7_wetness_73 : decode cX7_wetness 73 = .ok (.goto 9, 3) := by decide +kernel
theorem dX7_wetness_76 : decode cX7_wetness 76 = .ok (.aload_n 0, 1) := by decide +kernel
theorem dX7_wetness_77 : decode cX7_wetness 77 = .ok (.bipush (-5), 2) := by decide +kernel
theorem dX7_wetness_79 : decode cX7_wetness 79 = .ok (.invokevirtual 100, 3) := by decide +kernel
theorem dX7_wetness_82 : decode cX7_wetness 82 = .ok (.ireturn, 1) := by decide +kernel
theorem dX7_when_0 : decode cX7_when 0 = .ok (.aload_n 0, 1) := by decide +kernel
theorem dX7_when_1 : decode cX7_when 1 = .ok (.iload_n 1, 1) := by decide +kernel
theorem dX7_when_2 : decode cX7_when 2 = .ok (.invokevirtual 93, 3) := by decide +kernel
theorem dX7_when_5 : decode cX7_when 5 = .ok (.ifCond .ne 9, 3) := by decide +kernel
theorem dX7_when_8 : decode cX7_when 8 = .ok (.aload_n 0, 1) := by decide +kernel
theorem dX7_when_9 : decode cX7_when 9 = .ok (.iconst (-1), 1) := by decide +kernel
theorem dX7_when_10 : decode cX7_when 10 = .ok (.invokevirtual 217, 3) := by decide +kernel
theorem dX7_when_13 : decode cX7_when 13 = .ok (.ireturn, 1) := by decide +kernel
theorem dX7_when_14 : decode cX7_when 14 = .ok (.aload_n 0, 1) := by decide +kernel
theorem dX7_when_15 : decode cX7_when 15 = .ok (.iload_n 2, 1) := by decide +kernel
theorem dX7_when_16 : decode cX7_when 16 = .ok (.iload_n 3, 1) := by decide +kernel
theorem dX7_when_17 : decode cX7_when 17 = .ok (.iload 4, 2) := by decide +kernel
theorem dX7_when_19 : decode cX7_when 19 = .ok (.invokevirtual 226, 3) := by decide +kernel
theorem dX7_when_22 : decode cX7_when 22 = .ok (.ifCond .ne 10, 3) := by decide +kernel
theorem dX7_when_25 : decode cX7_when 25 = .ok (.aload_n 0, 1) := by decide +kernel
theorem dX7_when_26 : decode cX7_when 26 = .ok (.bipush (-6), 2) := by decide +kernel
theorem dX7_when_28 : decode cX7_when 28 = .ok (.invokevirtual 217, 3) := by decide +kernel
theorem dX7_when_31 : decode cX7_when 31 = .ok (.ireturn, 1) := by decide +kernel
theorem dX7_when_32 : decode cX7_when 32 = .ok (.aload_n 0, 1) := by decide +kernel
theorem dX7_when_33 : decode cX7_when 33 = .ok (.iload_n 1, 1) := by decide +kernel
theorem dX7_when_34 : decode cX7_when 34 = .ok (.iload_n 2, 1) := by decide +kernel
theorem dX7_when_35 : decode cX7_when 35 = .ok (.iload_n 3, 1) := by decide +kernel
theorem dX7_when_36 : decode cX7_when 36 = .ok (.iload 4, 2) := by decide +kernel
theorem dX7_when_38 : decode cX7_when 38 = .ok (.aload_n 0, 1) := by decide +kernel
theorem dX7_when_39 : decode cX7_when 39 = .ok (.getfield 7, 3) := by decide +kernel
theorem dX7_when_42 : decode cX7_when 42 = .ok (.invokevirtual 230, 3) := by decide +kernel
theorem dX7_when_45 : decode cX7_when 45 = .ok (.aload_n 0, 1) := by decide +kernel
theorem dX7_when_46 : decode cX7_when 46 = .ok (.getfield 186, 3) := by decide +kernel
theorem dX7_when_49 : decode cX7_when 49 = .ok (.ireturn, 1) := by decide +kernel
theorem dX7_isWhole_0 : decode cX7_isWhole 0 = .ok (.aload_n 0, 1) := by decide +kernel
theorem dX7_isWhole_1 : decode cX7_isWhole 1 = .ok (.iload_n 1, 1) := by decide +kernel
theorem dX7_isWhole_2 : decode cX7_isWhole 2 = .ok (.iload_n 2, 1) := by decide +kernel
theorem dX7_isWhole_3 : decode cX7_isWhole 3 = .ok (.iload_n 3, 1) := by decide +kernel
theorem dX7_isWhole_4 : decode cX7_isWhole 4 = .ok (.iload 4, 2) := by decide +kernel
theorem dX7_isWhole_6 : decode cX7_isWhole 6 = .ok (.aload_n 0, 1) := by decide +kernel
theorem dX7_isWhole_7 : decode cX7_isWhole 7 = .ok (.getfield 7, 3) := by decide +kernel
theorem dX7_isWhole_10 : decode cX7_isWhole 10 = .ok (.invokevirtual 230, 3) := by decide +kernel
theorem dX7_isWhole_13 : decode cX7_isWhole 13 = .ok (.aload_n 0, 1) := by decide +kernel
theorem dX7_isWhole_14 : decode cX7_isWhole 14 = .ok (.getfield 183, 3) := by decide +kernel
theorem dX7_isWhole_17 : decode cX7_isWhole 17 = .ok (.ifCond .ne 7, 3) := by decide +kernel
theorem dX7_isWhole_20 : decode cX7_isWhole 20 = .ok (.iconst 1, 1) := by decide +kernel
theorem dX7_isWhole_21 : decode cX7_isWhole 21 = .ok (.goto 4, 3) := by decide +kernel
theorem dX7_isWhole_24 : decode cX7_isWhole 24 = .ok (.iconst 0, 1) := by decide +kernel
theorem dX7_isWhole_25 : decode cX7_isWhole 25 = .ok (.ireturn, 1) := by decide +kernel
theorem dX7_longest_0 : decode cX7_longest 0 = .ok (.aload_n 0, 1) := by decide +kernel
theorem dX7_longest_1 : decode cX7_longest 1 = .ok (.iload_n 1, 1) := by decide +kernel
theorem dX7_longest_2 : decode cX7_longest 2 = .ok (.invokevirtual 93, 3) := by decide +kernel
theorem dX7_longest_5 : decode cX7_longest 5 = .ok (.ifCond .ne 9, 3) := by decide +kernel
theorem dX7_longest_8 : decode cX7_longest 8 = .ok (.aload_n 0, 1) := by decide +kernel
theorem dX7_longest_9 : decode cX7_longest 9 = .ok (.iconst (-1), 1) := by decide +kernel
theorem dX7_longest_10 : decode cX7_longest 10 = .ok (.invokevirtual 217, 3) := by decide +kernel
theorem dX7_longest_13 : decode cX7_longest 13 = .ok (.ireturn, 1) := by decide +kernel
theorem dX7_longest_14 : decode cX7_longest 14 = .ok (.aload_n 0, 1) := by decide +kernel
theorem dX7_longest_15 : decode cX7_longest 15 = .ok (.iload_n 2, 1) := by decide +kernel
theorem dX7_longest_16 : decode cX7_longest 16 = .ok (.invokevirtual 220, 3) := by decide +kernel
theorem dX7_longest_19 : decode cX7_longest 19 = .ok (.ifCond .eq 11, 3) := by decide +kernel
theorem dX7_longest_22 : decode cX7_longest 22 = .ok (.aload_n 0, 1) := by decide +kernel
theorem dX7_longest_23 : decode cX7_longest 23 = .ok (.iload_n 3, 1) := by decide +kernel
theorem dX7_longest_24 : decode cX7_longest 24 = .ok (.invokevirtual 223, 3) := by decide +kernel
theorem dX7_longest_27 : decode cX7_longest 27 = .ok (.ifCond .ne 10, 3) := by decide +kernel
theorem dX7_longest_30 : decode cX7_longest 30 = .ok (.aload_n 0, 1) := by decide +kernel
theorem dX7_longest_31 : decode cX7_longest 31 = .ok (.bipush (-6), 2) := by decide +kernel
theorem dX7_longest_33 : decode cX7_longest 33 = .ok (.invokevirtual 217, 3) := by decide +kernel
theorem dX7_longest_36 : decode cX7_longest 36 = .ok (.ireturn, 1) := by decide +kernel
theorem dX7_longest_37 : decode cX7_longest 37 = .ok (.iconst (-1), 1) := by decide +kernel
theorem dX7_longest_38 : decode cX7_longest 38 = .ok (.istore 4, 2) := by decide +kernel
theorem dX7_longest_40 : decode cX7_longest 40 = .ok (.iconst 0, 1) := by decide +kernel
theorem dX7_longest_41 : decode cX7_longest 41 = .ok (.istore 5, 2) := by decide +kernel
theorem dX7_longest_43 : decode cX7_longest 43 = .ok (.iload 5, 2) := by decide +kernel
theorem dX7_longest_45 : decode cX7_longest 45 = .ok (.bipush 60, 2) := by decide +kernel
theorem dX7_longest_47 : decode cX7_longest 47 = .ok (.if_icmp .gt 25, 3) := by decide +kernel
theorem dX7_longest_50 : decode cX7_longest 50 = .ok (.aload_n 0, 1) := by decide +kernel
theorem dX7_longest_51 : decode cX7_longest 51 = .ok (.iload_n 1, 1) := by decide +kernel
theorem dX7_longest_52 : decode cX7_longest 52 = .ok (.iload_n 2, 1) := by decide +kernel
theorem dX7_longest_53 : decode cX7_longest 53 = .ok (.iload 5, 2) := by decide +kernel
theorem dX7_longest_55 : decode cX7_longest 55 = .ok (.iload_n 3, 1) := by decide +kernel
theorem dX7_longest_56 : decode cX7_longest 56 = .ok (.invokevirtual 233, 3) := by decide +kernel
theorem dX7_longest_59 : decode cX7_longest 59 = .ok (.ifCond .eq 13, 3) := by decide +kernel
theorem dX7_longest_62 : decode cX7_longest 62 = .ok (.iload 5, 2) := by decide +kernel
theorem dX7_longest_64 : decode cX7_longest 64 = .ok (.istore 4, 2) := by decide +kernel
theorem dX7_longest_66 : decode cX7_longest 66 = .ok (.iinc 5 1, 3) := by decide +kernel
theorem dX7_longest_69 : decode cX7_longest 69 = .ok (.goto (-26), 3) := by decide +kernel
theorem dX7_longest_72 : decode cX7_longest 72 = .ok (.iload 4, 2) := by decide +kernel
theorem dX7_longest_74 : decode cX7_longest 74 = .ok (.ireturn, 1) := by decide +kernel
theorem dX7_far_0 : decode cX7_far 0 = .ok (.aload_n 0, 1) := by decide +kernel
theorem dX7_far_1 : decode cX7_far 1 = .ok (.iload_n 1, 1) := by decide +kernel
theorem dX7_far_2 : decode cX7_far 2 = .ok (.invokevirtual 93, 3) := by decide +kernel
theorem dX7_far_5 : decode cX7_far 5 = .ok (.ifCond .ne 9, 3) := by decide +kernel
theorem dX7_far_8 : decode cX7_far 8 = .ok (.aload_n 0, 1) := by decide +kernel
theorem dX7_far_9 : decode cX7_far 9 = .ok (.iconst (-1), 1) := by decide +kernel
theorem dX7_far_10 : decode cX7_far 10 = .ok (.invokevirtual 217, 3) := by decide +kernel
theorem dX7_far_13 : decode cX7_far 13 = .ok (.ireturn, 1) := by decide +kernel
theorem dX7_far_14 : decode cX7_far 14 = .ok (.aload_n 0, 1) := by decide +kernel
theorem dX7_far_15 : decode cX7_far 15 = .ok (.iload_n 2, 1) := by decide +kernel
theorem dX7_far_16 : decode cX7_far 16 = .ok (.invokevirtual 220, 3) := by decide +kernel
theorem dX7_far_19 : decode cX7_far 19 = .ok (.ifCond .eq 11, 3) := by decide +kernel
theorem dX7_far_22 : decode cX7_far 22 = .ok (.aload_n 0, 1) := by decide +kernel
theorem dX7_far_23 : decode cX7_far 23 = .ok (.iload_n 3, 1) := by decide +kernel
theorem dX7_far_24 : decode cX7_far 24 = .ok (.invokevirtual 223, 3) := by decide +kernel
theorem dX7_far_27 : decode cX7_far 27 = .ok (.ifCond .ne 10, 3) := by decide +kernel
theorem dX7_far_30 : decode cX7_far 30 = .ok (.aload_n 0, 1) := by decide +kernel
theorem dX7_far_31 : decode cX7_far 31 = .ok (.bipush (-6), 2) := by decide +kernel
theorem dX7_far_33 : decode cX7_far 33 = .ok (.invokevirtual 217, 3) := by decide +kernel
theorem dX7_far_36 : decode cX7_far 36 = .ok (.ireturn, 1) := by decide +kernel
theorem dX7_far_37 : decode cX7_far 37 = .ok (.iconst (-1), 1) := by decide +kernel
theorem dX7_far_38 : decode cX7_far 38 = .ok (.istore 4, 2) := by decide +kernel
theorem dX7_far_40 : decode cX7_far 40 = .ok (.iconst 0, 1) := by decide +kernel
theorem dX7_far_41 : decode cX7_far 41 = .ok (.istore 5, 2) := by decide +kernel
theorem dX7_far_43 : decode cX7_far 43 = .ok (.iload 5, 2) := by decide +kernel
theorem dX7_far_45 : decode cX7_far 45 = .ok (.bipush 60, 2) := by decide +kernel
theorem dX7_far_47 : decode cX7_far 47 = .ok (.if_icmp .gt 25, 3) := by decide +kernel
theorem dX7_far_50 : decode cX7_far 50 = .ok (.aload_n 0, 1) := by decide +kernel
theorem dX7_far_51 : decode cX7_far 51 = .ok (.iload_n 1, 1) := by decide +kernel
theorem dX7_far_52 : decode cX7_far 52 = .ok (.iload_n 2, 1) := by decide +kernel
theorem dX7_far_53 : decode cX7_far 53 = .ok (.iload_n 3, 1) := by decide +kernel
theorem dX7_far_54 : decode cX7_far 54 = .ok (.iload 5, 2) := by decide +kernel
theorem dX7_far_56 : decode cX7_far 56 = .ok (.invokevirtual 233, 3) := by decide +kernel
theorem dX7_far_59 : decode cX7_far 59 = .ok (.ifCond .eq 13, 3) := by decide +kernel
theorem dX7_far_62 : decode cX7_far 62 = .ok (.iload 5, 2) := by decide +kernel
theorem dX7_far_64 : decode cX7_far 64 = .ok (.istore 4, 2) := by decide +kernel
theorem dX7_far_66 : decode cX7_far 66 = .ok (.iinc 5 1, 3) := by decide +kernel
theorem dX7_far_69 : decode cX7_far 69 = .ok (.goto (-26), 3) := by decide +kernel
theorem dX7_far_72 : decode cX7_far 72 = .ok (.iload 4, 2) := by decide +kernel
theorem dX7_far_74 : decode cX7_far 74 = .ok (.ireturn, 1) := by decide +kernel
theorem dX7_worth_0 : decode cX7_worth 0 = .ok (.aload_n 0, 1) := by decide +kernel
theorem dX7_worth_1 : decode cX7_worth 1 = .ok (.iload_n 1, 1) := by decide +kernel
theorem dX7_worth_2 : decode cX7_worth 2 = .ok (.invokevirtual 93, 3) := by decide +kernel
theorem dX7_worth_5 : decode cX7_worth 5 = .ok (.ifCond .ne 9, 3) := by decide +kernel
theorem dX7_worth_8 : decode cX7_worth 8 = .ok (.aload_n 0, 1) := by decide +kernel
theorem dX7_worth_9 : decode cX7_worth 9 = .ok (.iconst (-1), 1) := by decide +kernel
theorem dX7_worth_10 : decode cX7_worth 10 = .ok (.invokevirtual 100, 3) := by decide +kernel
theorem dX7_worth_13 : decode cX7_worth 13 = .ok (.ireturn, 1) := by decide +kernel
theorem dX7_worth_14 : decode cX7_worth 14 = .ok (.aload_n 0, 1) := by decide +kernel
theorem dX7_worth_15 : decode cX7_worth 15 = .ok (.iload_n 2, 1) := by decide +kernel
theorem dX7_worth_16 : decode cX7_worth 16 = .ok (.iload_n 3, 1) := by decide +kernel
theorem dX7_worth_17 : decode cX7_worth 17 = .ok (.iload 4, 2) := by decide +kernel
theorem dX7_worth_19 : decode cX7_worth 19 = .ok (.invokevirtual 226, 3) := by decide +kernel
theorem dX7_worth_22 : decode cX7_worth 22 = .ok (.ifCond .ne 10, 3) := by decide +kernel
theorem dX7_worth_25 : decode cX7_worth 25 = .ok (.aload_n 0, 1) := by decide +kernel
theorem dX7_worth_26 : decode cX7_worth 26 = .ok (.bipush (-6), 2) := by decide +kernel
theorem dX7_worth_28 : decode cX7_worth 28 = .ok (.invokevirtual 100, 3) := by decide +kernel
theorem dX7_worth_31 : decode cX7_worth 31 = .ok (.ireturn, 1) := by decide +kernel
theorem dX7_worth_32 : decode cX7_worth 32 = .ok (.aload_n 0, 1) := by decide +kernel
theorem dX7_worth_33 : decode cX7_worth 33 = .ok (.iload_n 1, 1) := by decide +kernel
theorem dX7_worth_34 : decode cX7_worth 34 = .ok (.iload_n 2, 1) := by decide +kernel
theorem dX7_worth_35 : decode cX7_worth 35 = .ok (.iload_n 3, 1) := by decide +kernel
theorem dX7_worth_36 : decode cX7_worth 36 = .ok (.iload 4, 2) := by decide +kernel
theorem dX7_worth_38 : decode cX7_worth 38 = .ok (.aload_n 0, 1) := by decide +kernel
theorem dX7_worth_39 : decode cX7_worth 39 = .ok (.getfield 7, 3) := by decide +kernel
theorem dX7_worth_42 : decode cX7_worth 42 = .ok (.invokevirtual 230, 3) := by decide +kernel
theorem dX7_worth_45 : decode cX7_worth 45 = .ok (.aload_n 0, 1) := by decide +kernel
theorem dX7_worth_46 : decode cX7_worth 46 = .ok (.invokevirtual 237, 3) := by decide +kernel
theorem dX7_worth_49 : decode cX7_worth 49 = .ok (.ireturn, 1) := by decide +kernel
theorem dX7_turns_0 : decode cX7_turns 0 = .ok (.iconst 0, 1) := by decide +kernel
theorem dX7_turns_1 : decode cX7_turns 1 = .ok (.istore_n 2, 1) := by decide +kernel
theorem dX7_turns_2 : decode cX7_turns 2 = .ok (.aload_n 0, 1) := by decide +kernel
theorem dX7_turns_3 : decode cX7_turns 3 = .ok (.getfield 35, 3) := by decide +kernel
theorem dX7_turns_6 : decode cX7_turns 6 = .ok (.iload_n 1, 1) := by decide +kernel
theorem dX7_turns_7 : decode cX7_turns 7 = .ok (.iaload, 1) := by decide +kernel
theorem dX7_turns_8 : decode cX7_turns 8 = .ok (.iconst 1, 1) := by decide +kernel
theorem dX7_turns_9 : decode cX7_turns 9 = .ok (.isub, 1) := by decide +kernel
theorem dX7_turns_10 : decode cX7_turns 10 = .ok (.istore_n 3, 1) := by decide +kernel
theorem dX7_turns_11 : decode cX7_turns 11 = .ok (.iload_n 2, 1) := by decide +kernel
theorem dX7_turns_12 : decode cX7_turns 12 = .ok (.iload_n 3, 1) := by decide +kernel
theorem dX7_turns_13 : decode cX7_turns 13 = .ok (.if_icmp .ge 60, 3) := by decide +kernel
theorem dX7_turns_16 : decode cX7_turns 16 = .ok (.aload_n 0, 1) := by decide +kernel
theorem dX7_turns_17 : decode cX7_turns 17 = .ok (.getfield 38, 3) := by decide +kernel
theorem dX7_turns_20 : decode cX7_turns 20 = .ok (.bipush 12, 2) := by decide +kernel
theorem dX7_turns_22 : decode cX7_turns 22 = .ok (.iload_n 1, 1) := by decide +kernel
theorem dX7_turns_23 : decode cX7_turns 23 = .ok (.imul, 1) := by decide +kernel
theorem dX7_turns_24 : decode cX7_turns 24 = .ok (.iload_n 2, 1) := by decide +kernel
theorem dX7_turns_25 : decode cX7_turns 25 = .ok (.iadd, 1) := by decide +kernel
theorem dX7_turns_26 : decode cX7_turns 26 = .ok (.iaload, 1) := by decide +kernel
theorem dX7_turns_27 : decode cX7_turns 27 = .ok (.istore 4, 2) := by decide +kernel
theorem dX7_turns_29 : decode cX7_turns 29 = .ok (.aload_n 0, 1) := by decide +kernel
theorem dX7_turns_30 : decode cX7_turns 30 = .ok (.getfield 38, 3) := by decide +kernel
theorem dX7_turns_33 : decode cX7_turns 33 = .ok (.bipush 12, 2) := by decide +kernel
theorem dX7_turns_35 : decode cX7_turns 35 = .ok (.iload_n 1, 1) := by decide +kernel
theorem dX7_turns_36 : decode cX7_turns 36 = .ok (.imul, 1) := by decide +kernel
theorem dX7_turns_37 : decode cX7_turns 37 = .ok (.iload_n 2, 1) := by decide +kernel
theorem dX7_turns_38 : decode cX7_turns 38 = .ok (.iadd, 1) := by decide +kernel
theorem dX7_turns_39 : decode cX7_turns 39 = .ok (.aload_n 0, 1) := by decide +kernel
theorem dX7_turns_40 : decode cX7_turns 40 = .ok (.getfield 38, 3) := by decide +kernel
theorem dX7_turns_43 : decode cX7_turns 43 = .ok (.bipush 12, 2) := by decide +kernel
theorem dX7_turns_45 : decode cX7_turns 45 = .ok (.iload_n 1, 1) := by decide +kernel
theorem dX7_turns_46 : decode cX7_turns 46 = .ok (.imul, 1) := by decide +kernel
theorem dX7_turns_47 : decode cX7_turns 47 = .ok (.iload_n 3, 1) := by decide +kernel
theorem dX7_turns_48 : decode cX7_turns 48 = .ok (.iadd, 1) := by decide +kernel
theorem dX7_turns_49 : decode cX7_turns 49 = .ok (.iaload, 1) := by decide +kernel
theorem dX7_turns_50 : decode cX7_turns 50 = .ok (.iastore, 1) := by decide +kernel
theorem dX7_turns_51 : decode cX7_turns 51 = .ok (.aload_n 0, 1) := by decide +kernel
theorem dX7_turns_52 : decode cX7_turns 52 = .ok (.getfield 38, 3) := by decide +kernel
theorem dX7_turns_55 : decode cX7_turns 55 = .ok (.bipush 12, 2) := by decide +kernel
theorem dX7_turns_57 : decode cX7_turns 57 = .ok (.iload_n 1, 1) := by decide +kernel
theorem dX7_turns_58 : decode cX7_turns 58 = .ok (.imul, 1) := by decide +kernel
theorem dX7_turns_59 : decode cX7_turns 59 = .ok (.iload_n 3, 1) := by decide +kernel
theorem dX7_turns_60 : decode cX7_turns 60 = .ok (.iadd, 1) := by decide +kernel
theorem dX7_turns_61 : decode cX7_turns 61 = .ok (.iload 4, 2) := by decide +kernel
theorem dX7_turns_63 : decode cX7_turns 63 = .ok (.iastore, 1) := by decide +kernel
theorem dX7_turns_64 : decode cX7_turns 64 = .ok (.iinc 2 1, 3) := by decide +kernel
theorem dX7_turns_67 : decode cX7_turns 67 = .ok (.iinc 3 (-1), 3) := by decide +kernel
theorem dX7_turns_70 : decode cX7_turns 70 = .ok (.goto (-59), 3) := by decide +kernel
theorem dX7_turns_73 : decode cX7_turns 73 = .ok (.return_, 1) := by decide +kernel
theorem dX7_turnsRow_0 : decode cX7_turnsRow 0 = .ok (.iconst 0, 1) := by decide +kernel
theorem dX7_turnsRow_1 : decode cX7_turnsRow 1 = .ok (.istore_n 1, 1) := by decide +kernel
theorem dX7_turnsRow_2 : decode cX7_turnsRow 2 = .ok (.aload_n 0, 1) := by decide +kernel
theorem dX7_turnsRow_3 : decode cX7_turnsRow 3 = .ok (.getfield 177, 3) := by decide +kernel
theorem dX7_turnsRow_6 : decode cX7_turnsRow 6 = .ok (.iconst 1, 1) := by decide +kernel
theorem dX7_turnsRow_7 : decode cX7_turnsRow 7 = .ok (.isub, 1) := by decide +kernel
theorem dX7_turnsRow_8 : decode cX7_turnsRow 8 = .ok (.istore_n 2, 1) := by decide +kernel
theorem dX7_turnsRow_9 : decode cX7_turnsRow 9 = .ok (.iload_n 1, 1) := by decide +kernel
theorem dX7_turnsRow_10 : decode cX7_turnsRow 10 = .ok (.iload_n 2, 1) := by decide +kernel
theorem dX7_turnsRow_11 : decode cX7_turnsRow 11 = .ok (.if_icmp .ge 38, 3) := by decide +kernel
theorem dX7_turnsRow_14 : decode cX7_turnsRow 14 = .ok (.aload_n 0, 1) := by decide +kernel
theorem dX7_turnsRow_15 : decode cX7_turnsRow 15 = .ok (.getfield 75, 3) := by decide +kernel
theorem dX7_turnsRow_18 : decode cX7_turnsRow 18 = .ok (.iload_n 1, 1) := by decide +kernel
theorem dX7_turnsRow_19 : decode cX7_turnsRow 19 = .ok (.iaload, 1) := by decide +kernel
theorem dX7_turnsRow_20 : decode cX7_turnsRow 20 = .ok (.istore_n 3, 1) := by decide +kernel
theorem dX7_turnsRow_21 : decode cX7_turnsRow 21 = .ok (.aload_n 0, 1) := by decide +kernel
theorem dX7_turnsRow_22 : decode cX7_turnsRow 22 = .ok (.getfield 75, 3) := by decide +kernel
theorem dX7_turnsRow_25 : decode cX7_turnsRow 25 = .ok (.iload_n 1, 1) := by decide +kernel
theorem dX7_turnsRow_26 : decode cX7_turnsRow 26 = .ok (.aload_n 0, 1) := by decide +kernel
theorem dX7_turnsRow_27 : decode cX7_turnsRow 27 = .ok (.getfield 75, 3) := by decide +kernel
theorem dX7_turnsRow_30 : decode cX7_turnsRow 30 = .ok (.iload_n 2, 1) := by decide +kernel
theorem dX7_turnsRow_31 : decode cX7_turnsRow 31 = .ok (.iaload, 1) := by decide +kernel
theorem dX7_turnsRow_32 : decode cX7_turnsRow 32 = .ok (.iastore, 1) := by decide +kernel
theorem dX7_turnsRow_33 : decode cX7_turnsRow 33 = .ok (.aload_n 0, 1) := by decide +kernel
theorem dX7_turnsRow_34 : decode cX7_turnsRow 34 = .ok (.getfield 75, 3) := by decide +kernel
theorem dX7_turnsRow_37 : decode cX7_turnsRow 37 = .ok (.iload_n 2, 1) := by decide +kernel
theorem dX7_turnsRow_38 : decode cX7_turnsRow 38 = .ok (.iload_n 3, 1) := by decide +kernel
theorem dX7_turnsRow_39 : decode cX7_turnsRow 39 = .ok (.iastore, 1) := by decide +kernel
theorem dX7_turnsRow_40 : decode cX7_turnsRow 40 = .ok (.iinc 1 1, 3) := by decide +kernel
theorem dX7_turnsRow_43 : decode cX7_turnsRow 43 = .ok (.iinc 2 (-1), 3) := by decide +kernel
theorem dX7_turnsRow_46 : decode cX7_turnsRow 46 = .ok (.goto (-37), 3) := by decide +kernel
theorem dX7_turnsRow_49 : decode cX7_turnsRow 49 = .ok (.return_, 1) := by decide +kernel
theorem dX7_best_0 : decode cX7_best 0 = .ok (.aload_n 0, 1) := by decide +kernel
theorem dX7_best_1 : decode cX7_best 1 = .ok (.iload_n 1, 1) := by decide +kernel
theorem dX7_best_2 : decode cX7_best 2 = .ok (.invokevirtual 93, 3) := by decide +kernel
theorem dX7_best_5 : decode cX7_best 5 = .ok (.ifCond .ne 9, 3) := by decide +kernel
theorem dX7_best_8 : decode cX7_best 8 = .ok (.aload_n 0, 1) := by decide +kernel
theorem dX7_best_9 : decode cX7_best 9 = .ok (.iconst (-1), 1) := by decide +kernel
theorem dX7_best_10 : decode cX7_best 10 = .ok (.invokevirtual 100, 3) := by decide +kernel
theorem dX7_best_13 : decode cX7_best 13 = .ok (.ireturn, 1) := by decide +kernel
theorem dX7_best_14 : decode cX7_best 14 = .ok (.iload_n 3, 1) := by decide +kernel
theorem dX7_best_15 : decode cX7_best 15 = .ok (.ifCond .lt 8, 3) := by decide +kernel
theorem dX7_best_18 : decode cX7_best 18 = .ok (.iload_n 3, 1) := by decide +kernel
theorem dX7_best_19 : decode cX7_best 19 = .ok (.iconst 1, 1) := by decide +kernel
theorem dX7_best_20 : decode cX7_best 20 = .ok (.if_icmp .le 10, 3) := by decide +kernel
theorem dX7_best_23 : decode cX7_best 23 = .ok (.aload_n 0, 1) := by decide +kernel
theorem dX7_best_24 : decode cX7_best 24 = .ok (.bipush (-5), 2) := by decide +kernel
theorem dX7_best_26 : decode cX7_best 26 = .ok (.invokevirtual 100, 3) := by decide +kernel
theorem dX7_best_29 : decode cX7_best 29 = .ok (.ireturn, 1) := by decide +kernel
theorem dX7_best_30 : decode cX7_best 30 = .ok (.aload_n 0, 1) := by decide +kernel
theorem dX7_best_31 : decode cX7_best 31 = .ok (.iload_n 2, 1) := by decide +kernel
theorem dX7_best_32 : decode cX7_best 32 = .ok (.invokevirtual 223, 3) := by decide +kernel
theorem dX7_best_35 : decode cX7_best 35 = .ok (.ifCond .ne 10, 3) := by decide +kernel
theorem dX7_best_38 : decode cX7_best 38 = .ok (.aload_n 0, 1) := by decide +kernel
theorem dX7_best_39 : decode cX7_best 39 = .ok (.bipush (-6), 2) := by decide +kernel
theorem dX7_best_41 : decode cX7_best 41 = .ok (.invokevirtual 100, 3) := by decide +kernel
theorem dX7_best_44 : decode cX7_best 44 = .ok (.ireturn, 1) := by decide +kernel
theorem dX7_best_45 : decode cX7_best 45 = .ok (.iconst 0, 1) := by decide +kernel
theorem dX7_best_46 : decode cX7_best 46 = .ok (.istore 4, 2) := by decide +kernel
theorem dX7_best_48 : decode cX7_best 48 = .ok (.iconst (-1), 1) := by decide +kernel
theorem dX7_best_49 : decode cX7_best 49 = .ok (.istore 5, 2) := by decide +kernel
theorem dX7_best_51 : decode cX7_best 51 = .ok (.iconst 0, 1) := by decide +kernel
theorem dX7_best_52 : decode cX7_best 52 = .ok (.istore 6, 2) := by decide +kernel
theorem dX7_best_54 : decode cX7_best 54 = .ok (.iload 6, 2) := by decide +kernel
theorem dX7_best_56 : decode cX7_best 56 = .ok (.aload_n 0, 1) := by decide +kernel
theorem dX7_best_57 : decode cX7_best 57 = .ok (.getfield 35, 3) := by decide +kernel
theorem dX7_best_60 : decode cX7_best 60 = .ok (.iload_n 1, 1) := by decide +kernel
theorem dX7_best_61 : decode cX7_best 61 = .ok (.iaload, 1) := by decide +kernel
theorem dX7_best_62 : decode cX7_best 62 = .ok (.if_icmp .gt 96, 3) := by decide +kernel
theorem dX7_best_65 : decode cX7_best 65 = .ok (.iconst 0, 1) := by decide +kernel
theorem dX7_best_66 : decode cX7_best 66 = .ok (.istore 7, 2) := by decide +kernel
theorem dX7_best_68 : decode cX7_best 68 = .ok (.iload 7, 2) := by decide +kernel
theorem dX7_best_70 : decode cX7_best 70 = .ok (.bipush 30, 2) := by decide +kernel
theorem dX7_best_72 : decode cX7_best 72 = .ok (.if_icmp .gt 80, 3) := by decide +kernel
theorem dX7_best_75 : decode cX7_best 75 = .ok (.aload_n 0, 1) := by decide +kernel
theorem dX7_best_76 : decode cX7_best 76 = .ok (.iload_n 1, 1) := by decide +kernel
theorem dX7_best_77 : decode cX7_best 77 = .ok (.invokevirtual 206, 3) := by decide +kernel
theorem dX7_best_80 : decode cX7_best 80 = .ok (.iload_n 3, 1) := by decide +kernel
theorem dX7_best_81 : decode cX7_best 81 = .ok (.iconst 1, 1) := by decide +kernel
theorem dX7_best_82 : decode cX7_best 82 = .ok (.if_icmp .ne 7, 3) := by decide +kernel
theorem dX7_best_85 : decode cX7_best 85 = .ok (.aload_n 0, 1) := by decide +kernel
theorem dX7_best_86 : decode cX7_best 86 = .ok (.invokevirtual 240, 3) := by decide +kernel
theorem dX7_best_89 : decode cX7_best 89 = .ok (.aload_n 0, 1) := by decide +kernel
theorem dX7_best_90 : decode cX7_best 90 = .ok (.iload_n 1, 1) := by decide +kernel
theorem dX7_best_91 : decode cX7_best 91 = .ok (.iload 6, 2) := by decide +kernel
theorem dX7_best_93 : decode cX7_best 93 = .ok (.iload 7, 2) := by decide +kernel
theorem dX7_best_95 : decode cX7_best 95 = .ok (.aload_n 0, 1) := by decide +kernel
theorem dX7_best_96 : decode cX7_best 96 = .ok (.getfield 7, 3) := by decide +kernel
theorem dX7_best_99 : decode cX7_best 99 = .ok (.iconst 0, 1) := by decide +kernel
theorem dX7_best_100 : decode cX7_best 100 = .ok (.invokevirtual 210, 3) := by decide +kernel
theorem dX7_best_103 : decode cX7_best 103 = .ok (.aload_n 0, 1) := by decide +kernel
theorem dX7_best_104 : decode cX7_best 104 = .ok (.iload_n 1, 1) := by decide +kernel
theorem dX7_best_105 : decode cX7_best 105 = .ok (.iconst 0, 1) := by decide +kernel
theorem dX7_best_106 : decode cX7_best 106 = .ok (.iload_n 2, 1) := by decide +kernel
theorem dX7_best_107 : decode cX7_best 107 = .ok (.aload_n 0, 1) := by decide +kernel
theorem dX7_best_108 : decode cX7_best 108 = .ok (.getfield 7, 3) := by decide +kernel
theorem dX7_best_111 : decode cX7_best 111 = .ok (.iload 7, 2) := by decide +kernel
theorem dX7_best_113 : decode cX7_best 113 = .ok (.invokevirtual 210, 3) := by decide +kernel
theorem dX7_best_116 : decode cX7_best 116 = .ok (.aload_n 0, 1) := by decide +kernel
theorem dX7_best_117 : decode cX7_best 117 = .ok (.invokevirtual 237, 3) := by decide +kernel
theorem dX7_best_120 : decode cX7_best 120 = .ok (.istore 8, 2) := by decide +kernel
theorem dX7_best_122 : decode cX7_best 122 = .ok (.iload 8, 2) := by decide +kernel
theorem dX7_best_124 : decode cX7_best 124 = .ok (.iload 5, 2) := by decide +kernel
theorem dX7_best_126 : decode cX7_best 126 = .ok (.if_icmp .gt 6, 3) := by decide +kernel
theorem dX7_best_129 : decode cX7_best 129 = .ok (.goto 17, 3) := by decide +kernel
theorem dX7_best_132 : decode cX7_best 132 = .ok (.bipush 100, 2) := by decide +kernel
theorem dX7_best_134 : decode cX7_best 134 = .ok (.iload 6, 2) := by decide +kernel
theorem dX7_best_136 : decode cX7_best 136 = .ok (.imul, 1) := by decide +kernel
theorem dX7_best_137 : decode cX7_best 137 = .ok (.iload 7, 2) := by decide +kernel
theorem dX7_best_139 : decode cX7_best 139 = .ok (.iadd, 1) := by decide +kernel
theorem dX7_best_140 : decode cX7_best 140 = .ok (.istore 4, 2) := by decide +kernel
theorem dX7_best_142 : decode cX7_best 142 = .ok (.iload 8, 2) := by decide +kernel
theorem dX7_best_144 : decode cX7_best 144 = .ok (.istore 5, 2) := by decide +kernel
theorem dX7_best_146 : decode cX7_best 146 = .ok (.iinc 7 1, 3) := by decide +kernel
theorem dX7_best_149 : decode cX7_best 149 = .ok (.goto (-81), 3) := by decide +kernel
theorem dX7_best_152 : decode cX7_best 152 = .ok (.iinc 6 1, 3) := by decide +kernel
theorem dX7_best_155 : decode cX7_best 155 = .ok (.goto (-101), 3) := by decide +kernel
theorem dX7_best_158 : decode cX7_best 158 = .ok (.iload 4, 2) := by decide +kernel
theorem dX7_best_160 : decode cX7_best 160 = .ok (.ireturn, 1) := by decide +kernel
theorem dX7_twice_0 : decode cX7_twice 0 = .ok (.aload_n 0, 1) := by decide +kernel
theorem dX7_twice_1 : decode cX7_twice 1 = .ok (.iload_n 1, 1) := by decide +kernel
theorem dX7_twice_2 : decode cX7_twice 2 = .ok (.invokevirtual 93, 3) := by decide +kernel
theorem dX7_twice_5 : decode cX7_twice 5 = .ok (.ifCond .ne 9, 3) := by decide +kernel
theorem dX7_twice_8 : decode cX7_twice 8 = .ok (.aload_n 0, 1) := by decide +kernel
theorem dX7_twice_9 : decode cX7_twice 9 = .ok (.iconst (-1), 1) := by decide +kernel
theorem dX7_twice_10 : decode cX7_twice 10 = .ok (.invokevirtual 100, 3) := by decide +kernel
theorem dX7_twice_13 : decode cX7_twice 13 = .ok (.ireturn, 1) := by decide +kernel
theorem dX7_twice_14 : decode cX7_twice 14 = .ok (.aload_n 0, 1) := by decide +kernel
theorem dX7_twice_15 : decode cX7_twice 15 = .ok (.iload_n 2, 1) := by decide +kernel
theorem dX7_twice_16 : decode cX7_twice 16 = .ok (.iload_n 3, 1) := by decide +kernel
theorem dX7_twice_17 : decode cX7_twice 17 = .ok (.iconst 0, 1) := by decide +kernel
theorem dX7_twice_18 : decode cX7_twice 18 = .ok (.invokevirtual 226, 3) := by decide +kernel
theorem dX7_twice_21 : decode cX7_twice 21 = .ok (.ifCond .eq 15, 3) := by decide +kernel
theorem dX7_twice_24 : decode cX7_twice 24 = .ok (.aload_n 0, 1) := by decide +kernel
theorem dX7_twice_25 : decode cX7_twice 25 = .ok (.iload 4, 2) := by decide +kernel
theorem dX7_twice_27 : decode cX7_twice 27 = .ok (.iload 5, 2) := by decide +kernel
theorem dX7_twice_29 : decode cX7_twice 29 = .ok (.iconst 0, 1) := by decide +kernel
theorem dX7_twice_30 : decode cX7_twice 30 = .ok (.invokevirtual 226, 3) := by decide +kernel
theorem dX7_twice_33 : decode cX7_twice 33 = .ok (.ifCond .ne 10, 3) := by decide +kernel
theorem dX7_twice_36 : decode cX7_twice 36 = .ok (.aload_n 0, 1) := by decide +kernel
theorem dX7_twice_37 : decode cX7_twice 37 = .ok (.bipush (-6), 2) := by decide +kernel
theorem dX7_twice_39 : decode cX7_twice 39 = .ok (.invokevirtual 100, 3) := by decide +kernel
theorem dX7_twice_42 : decode cX7_twice 42 = .ok (.ireturn, 1) := by decide +kernel
theorem dX7_twice_43 : decode cX7_twice 43 = .ok (.aload_n 0, 1) := by decide +kernel
theorem dX7_twice_44 : decode cX7_twice 44 = .ok (.iload_n 1, 1) := by decide +kernel
theorem dX7_twice_45 : decode cX7_twice 45 = .ok (.invokevirtual 206, 3) := by decide +kernel
theorem dX7_twice_48 : decode cX7_twice 48 = .ok (.aload_n 0, 1) := by decide +kernel
theorem dX7_twice_49 : decode cX7_twice 49 = .ok (.iload_n 1, 1) := by decide +kernel
theorem dX7_twice_50 : decode cX7_twice 50 = .ok (.iload_n 2, 1) := by decide +kernel
theorem dX7_twice_51 : decode cX7_twice 51 = .ok (.iload_n 3, 1) := by decide +kernel
theorem dX7_twice_52 : decode cX7_twice 52 = .ok (.aload_n 0, 1) := by decide +kernel
theorem dX7_twice_53 : decode cX7_twice 53 = .ok (.getfield 7, 3) := by decide +kernel
theorem dX7_twice_56 : decode cX7_twice 56 = .ok (.iconst 0, 1) := by decide +kernel
theorem dX7_twice_57 : decode cX7_twice 57 = .ok (.invokevirtual 210, 3) := by decide +kernel
theorem dX7_twice_60 : decode cX7_twice 60 = .ok (.aload_n 0, 1) := by decide +kernel
theorem dX7_twice_61 : decode cX7_twice 61 = .ok (.invokevirtual 240, 3) := by decide +kernel
theorem dX7_twice_64 : decode cX7_twice 64 = .ok (.aload_n 0, 1) := by decide +kernel
theorem dX7_twice_65 : decode cX7_twice 65 = .ok (.iload_n 1, 1) := by decide +kernel
theorem dX7_twice_66 : decode cX7_twice 66 = .ok (.iload 4, 2) := by decide +kernel
theorem dX7_twice_68 : decode cX7_twice 68 = .ok (.iload 5, 2) := by decide +kernel
theorem dX7_twice_70 : decode cX7_twice 70 = .ok (.aload_n 0, 1) := by decide +kernel
theorem dX7_twice_71 : decode cX7_twice 71 = .ok (.getfield 7, 3) := by decide +kernel
theorem dX7_twice_74 : decode cX7_twice 74 = .ok (.iload_n 3, 1) := by decide +kernel
theorem dX7_twice_75 : decode cX7_twice 75 = .ok (.invokevirtual 210, 3) := by decide +kernel
theorem dX7_twice_78 : decode cX7_twice 78 = .ok (.aload_n 0, 1) := by decide +kernel
theorem dX7_twice_79 : decode cX7_twice 79 = .ok (.invokevirtual 237, 3) := by decide +kernel
theorem dX7_twice_82 : decode cX7_twice 82 = .ok (.ireturn, 1) := by decide +kernel
theorem dX7_goes_0 : decode cX7_goes 0 = .ok (.aload_n 0, 1) := by decide +kernel
theorem dX7_goes_1 : decode cX7_goes 1 = .ok (.iload_n 1, 1) := by decide +kernel
theorem dX7_goes_2 : decode cX7_goes 2 = .ok (.invokevirtual 93, 3) := by decide +kernel
theorem dX7_goes_5 : decode cX7_goes 5 = .ok (.ifCond .ne 9, 3) := by decide +kernel
theorem dX7_goes_8 : decode cX7_goes 8 = .ok (.aload_n 0, 1) := by decide +kernel
theorem dX7_goes_9 : decode cX7_goes 9 = .ok (.iconst (-1), 1) := by decide +kernel
theorem dX7_goes_10 : decode cX7_goes 10 = .ok (.invokevirtual 100, 3) := by decide +kernel
theorem dX7_goes_13 : decode cX7_goes 13 = .ok (.ireturn, 1) := by decide +kernel
theorem dX7_goes_14 : decode cX7_goes 14 = .ok (.aload_n 0, 1) := by decide +kernel
theorem dX7_goes_15 : decode cX7_goes 15 = .ok (.iload_n 2, 1) := by decide +kernel
theorem dX7_goes_16 : decode cX7_goes 16 = .ok (.iload_n 3, 1) := by decide +kernel
theorem dX7_goes_17 : decode cX7_goes 17 = .ok (.iconst 0, 1) := by decide +kernel
theorem dX7_goes_18 : decode cX7_goes 18 = .ok (.invokevirtual 226, 3) := by decide +kernel
theorem dX7_goes_21 : decode cX7_goes 21 = .ok (.ifCond .ne 10, 3) := by decide +kernel
theorem dX7_goes_24 : decode cX7_goes 24 = .ok (.aload_n 0, 1) := by decide +kernel
theorem dX7_goes_25 : decode cX7_goes 25 = .ok (.bipush (-6), 2) := by decide +kernel
theorem dX7_goes_27 : decode cX7_goes 27 = .ok (.invokevirtual 100, 3) := by decide +kernel
theorem dX7_goes_30 : decode cX7_goes 30 = .ok (.ireturn, 1) := by decide +kernel
theorem dX7_goes_31 : decode cX7_goes 31 = .ok (.aload_n 0, 1) := by decide +kernel
theorem dX7_goes_32 : decode cX7_goes 32 = .ok (.iload_n 1, 1) := by decide +kernel
theorem dX7_goes_33 : decode cX7_goes 33 = .ok (.iload_n 2, 1) := by decide +kernel
theorem dX7_goes_34 : decode cX7_goes 34 = .ok (.iload_n 3, 1) := by decide +kernel
theorem dX7_goes_35 : decode cX7_goes 35 = .ok (.iconst 0, 1) := by decide +kernel
theorem dX7_goes_36 : decode cX7_goes 36 = .ok (.aload_n 0, 1) := by decide +kernel
theorem dX7_goes_37 : decode cX7_goes 37 = .ok (.getfield 7, 3) := by decide +kernel
theorem dX7_goes_40 : decode cX7_goes 40 = .ok (.invokevirtual 230, 3) := by decide +kernel
theorem dX7_goes_43 : decode cX7_goes 43 = .ok (.aload_n 0, 1) := by decide +kernel
theorem dX7_goes_44 : decode cX7_goes 44 = .ok (.getfield 180, 3) := by decide +kernel
theorem dX7_goes_47 : decode cX7_goes 47 = .ok (.ireturn, 1) := by decide +kernel
theorem dX7_heatBehind_0 : decode cX7_heatBehind 0 = .ok (.aload_n 0, 1) := by decide +kernel
theorem dX7_heatBehind_1 : decode cX7_heatBehind 1 = .ok (.getfield 7, 3) := by decide +kernel
theorem dX7_heatBehind_4 : decode cX7_heatBehind 4 = .ok (.aload_n 0, 1) := by decide +kernel
theorem dX7_heatBehind_5 : decode cX7_heatBehind 5 = .ok (.getfield 164, 3) := by decide +kernel
theorem dX7_heatBehind_8 : decode cX7_heatBehind 8 = .ok (.iload_n 1, 1) := by decide +kernel
theorem dX7_heatBehind_9 : decode cX7_heatBehind 9 = .ok (.iadd, 1) := by decide +kernel
theorem dX7_heatBehind_10 : decode cX7_heatBehind 10 = .ok (.aload_n 0, 1) := by decide +kernel
theorem dX7_heatBehind_11 : decode cX7_heatBehind 11 = .ok (.getfield 13, 3) := by decide +kernel
theorem dX7_heatBehind_14 : decode cX7_heatBehind 14 = .ok (.idiv, 1) := by decide +kernel
theorem dX7_heatBehind_15 : decode cX7_heatBehind 15 = .ok (.aload_n 0, 1) := by decide +kernel
theorem dX7_heatBehind_16 : decode cX7_heatBehind 16 = .ok (.getfield 164, 3) := by decide +kernel
theorem dX7_heatBehind_19 : decode cX7_heatBehind 19 = .ok (.aload_n 0, 1) := by decide +kernel
theorem dX7_heatBehind_20 : decode cX7_heatBehind 20 = .ok (.getfield 13, 3) := by decide +kernel
theorem dX7_heatBehind_23 : decode cX7_heatBehind 23 = .ok (.idiv, 1) := by decide +kernel
theorem dX7_heatBehind_24 : decode cX7_heatBehind 24 = .ok (.isub, 1) := by decide +kernel
theorem dX7_heatBehind_25 : decode cX7_heatBehind 25 = .ok (.isub, 1) := by decide +kernel
theorem dX7_heatBehind_26 : decode cX7_heatBehind 26 = .ok (.istore_n 2, 1) := by decide +kernel
theorem dX7_heatBehind_27 : decode cX7_heatBehind 27 = .ok (.iload_n 2, 1) := by decide +kernel
theorem dX7_heatBehind_28 : decode cX7_heatBehind 28 = .ok (.ifCond .ge 7, 3) := by decide +kernel
theorem dX7_heatBehind_31 : decode cX7_heatBehind 31 = .ok (.iconst 0, 1) := by decide +kernel
theorem dX7_heatBehind_32 : decode cX7_heatBehind 32 = .ok (.goto 4, 3) := by decide +kernel
theorem dX7_heatBehind_35 : decode cX7_heatBehind 35 = .ok (.iload_n 2, 1) := by decide +kernel
theorem dX7_heatBehind_36 : decode cX7_heatBehind 36 = .ok (.ireturn, 1) := by decide +kernel
theorem dX7_plates_0 : decode cX7_plates 0 = .ok (.iload_n 1, 1) := by decide +kernel
theorem dX7_plates_1 : decode cX7_plates 1 = .ok (.aload_n 0, 1) := by decide +kernel
theorem dX7_plates_2 : decode cX7_plates 2 = .ok (.getfield 90, 3) := by decide +kernel
theorem dX7_plates_5 : decode cX7_plates 5 = .ok (.if_icmp .ne 50, 3) := by decide +kernel
theorem dX7_plates_8 : decode cX7_plates 8 = .ok (.iload_n 3, 1) := by decide +kernel
theorem dX7_plates_9 : decode cX7_plates 9 = .ok (.aload_n 0, 1) := by decide +kernel
theorem dX7_plates_10 : decode cX7_plates 10 = .ok (.getfield 243, 3) := by decide +kernel
theorem dX7_plates_13 : decode cX7_plates 13 = .ok (.if_icmp .gt 4, 3) := by decide +kernel
theorem dX7_plates_16 : decode cX7_plates 16 = .ok (.return_, 1) := by decide +kernel
theorem dX7_plates_17 : decode cX7_plates 17 = .ok (.aload_n 0, 1) := by decide +kernel
theorem dX7_plates_18 : decode cX7_plates 18 = .ok (.iload_n 3, 1) := by decide +kernel
theorem dX7_plates_19 : decode cX7_plates 19 = .ok (.putfield 243, 3) := by decide +kernel
theorem dX7_plates_22 : decode cX7_plates 22 = .ok (.iconst 0, 1) := by decide +kernel
theorem dX7_plates_23 : decode cX7_plates 23 = .ok (.istore 7, 2) := by decide +kernel
theorem dX7_plates_25 : decode cX7_plates 25 = .ok (.iload 7, 2) := by decide +kernel
theorem dX7_plates_27 : decode cX7_plates 27 = .ok (.aload_n 0, 1) := by decide +kernel
theorem dX7_plates_28 : decode cX7_plates 28 = .ok (.getfield 90, 3) := by decide +kernel
theorem dX7_plates_31 : decode cX7_plates 31 = .ok (.if_icmp .ge 23, 3) := by decide +kernel
theorem dX7_plates_34 : decode cX7_plates 34 = .ok (.aload_n 0, 1) := by decide +kernel
theorem dX7_plates_35 : decode cX7_plates 35 = .ok (.getfield 84, 3) := by decide +kernel
theorem dX7_plates_38 : decode cX7_plates 38 = .ok (.iload 7, 2) := by decide +kernel
theorem dX7_plates_40 : decode cX7_plates 40 = .ok (.aload_n 0, 1) := by decide +kernel
theorem dX7_plates_41 : decode cX7_plates 41 = .ok (.getfield 81, 3) := by decide +kernel
theorem dX7_plates_44 : decode cX7_plates 44 = .ok (.iload 7, 2) := by decide +kernel
theorem dX7_plates_46 : decode cX7_plates 46 = .ok (.iaload, 1) := by decide +kernel
theorem dX7_plates_47 : decode cX7_plates 47 = .ok (.iastore, 1) := by decide +kernel
theorem dX7_plates_48 : decode cX7_plates 48 = .ok (.iinc 7 1, 3) := by decide +kernel
theorem dX7_plates_51 : decode cX7_plates 51 = .ok (.goto (-26), 3) := by decide +kernel
theorem dX7_plates_54 : decode cX7_plates 54 = .ok (.return_, 1) := by decide +kernel
theorem dX7_plates_55 : decode cX7_plates 55 = .ok (.aload_n 0, 1) := by decide +kernel
theorem dX7_plates_56 : decode cX7_plates 56 = .ok (.iload_n 1, 1) := by decide +kernel
theorem dX7_plates_57 : decode cX7_plates 57 = .ok (.iload 5, 2) := by decide +kernel
theorem dX7_plates_59 : decode cX7_plates 59 = .ok (.iload 6, 2) := by decide +kernel
theorem dX7_plates_61 : decode cX7_plates 61 = .ok (.iadd, 1) := by decide +kernel
theorem dX7_plates_62 : decode cX7_plates 62 = .ok (.imul, 1) := by decide +kernel
theorem dX7_plates_63 : decode cX7_plates 63 = .ok (.invokevirtual 246, 3) := by decide +kernel
theorem dX7_plates_66 : decode cX7_plates 66 = .ok (.istore 7, 2) := by decide +kernel
theorem dX7_plates_68 : decode cX7_plates 68 = .ok (.iconst 0, 1) := by decide +kernel
theorem dX7_plates_69 : decode cX7_plates 69 = .ok (.istore 8, 2) := by decide +kernel
theorem dX7_plates_71 : decode cX7_plates 71 = .ok (.iload 8, 2) := by decide +kernel
theorem dX7_plates_73 : decode cX7_plates 73 = .ok (.aload_n 0, 1) := by decide +kernel
theorem dX7_plates_74 : decode cX7_plates 74 = .ok (.getfield 90, 3) := by decide +kernel
theorem dX7_plates_77 : decode cX7_plates 77 = .ok (.if_icmp .ge 69, 3) := by decide +kernel
theorem dX7_plates_80 : decode cX7_plates 80 = .ok (.iload_n 2, 1) := by decide +kernel
theorem dX7_plates_81 : decode cX7_plates 81 = .ok (.iload 8, 2) := by decide +kernel
theorem dX7_plates_83 : decode cX7_plates 83 = .ok (.ishr, 1) := by decide +kernel
theorem dX7_plates_84 : decode cX7_plates 84 = .ok (.iconst 1, 1) := by decide +kernel
theorem dX7_plates_85 : decode cX7_plates 85 = .ok (.iand, 1) := by decide +kernel
theorem dX7_plates_86 : decode cX7_plates 86 = .ok (.iconst 1, 1) := by decide +kernel
theorem dX7_plates_87 : decode cX7_plates 87 = .ok (.if_icmp .ne 6, 3) := by decide +kernel
theorem dX7_plates_90 : decode cX7_plates 90 = .ok (.goto 50, 3) := by decide +kernel
theorem dX7_plates_93 : decode cX7_plates 93 = .ok (.aload_n 0, 1) := by decide +kernel
theorem dX7_plates_94 : decode cX7_plates 94 = .ok (.getfield 81, 3) := by decide +kernel
theorem dX7_plates_97 : decode cX7_plates 97 = .ok (.iload_n 1, 1) := by decide +kernel
theorem dX7_plates_98 : decode cX7_plates 98 = .ok (.iload 8, 2) := by decide +kernel
theorem dX7_plates_100 : decode cX7_plates 100 = .ok (.iastore, 1) := by decide +kernel
theorem dX7_plates_101 : decode cX7_plates 101 = .ok (.aload_n 0, 1) := by decide +kernel
theorem dX7_plates_102 : decode cX7_plates 102 = .ok (.iload 8, 2) := by decide +kernel
theorem dX7_plates_104 : decode cX7_plates 104 = .ok (.iload 4, 2) := by decide +kernel
theorem dX7_plates_106 : decode cX7_plates 106 = .ok (.iload 5, 2) := by decide +kernel
theorem dX7_plates_108 : decode cX7_plates 108 = .ok (.iload 6, 2) := by decide +kernel
theorem dX7_plates_110 : decode cX7_plates 110 = .ok (.iload 7, 2) := by decide +kernel
theorem dX7_plates_112 : decode cX7_plates 112 = .ok (.invokevirtual 230, 3) := by decide +kernel
theorem dX7_plates_115 : decode cX7_plates 115 = .ok (.aload_n 0, 1) := by decide +kernel
theorem dX7_plates_116 : decode cX7_plates 116 = .ok (.iload_n 1, 1) := by decide +kernel
theorem dX7_plates_117 : decode cX7_plates 117 = .ok (.iconst 1, 1) := by decide +kernel
theorem dX7_plates_118 : decode cX7_plates 118 = .ok (.iadd, 1) := by decide +kernel
theorem dX7_plates_119 : decode cX7_plates 119 = .ok (.iload_n 2, 1) := by decide +kernel
theorem dX7_plates_120 : decode cX7_plates 120 = .ok (.iconst 1, 1) := by decide +kernel
theorem dX7_plates_121 : decode cX7_plates 121 = .ok (.iload 8, 2) := by decide +kernel
theorem dX7_plates_123 : decode cX7_plates 123 = .ok (.ishl, 1) := by decide +kernel
theorem dX7_plates_124 : decode cX7_plates 124 = .ok (.ior, 1) := by decide +kernel
theorem dX7_plates_125 : decode cX7_plates 125 = .ok (.iload_n 3, 1) := by decide +kernel
theorem dX7_plates_126 : decode cX7_plates 126 = .ok (.aload_n 0, 1) := by decide +kernel
theorem dX7_plates_127 : decode cX7_plates 127 = .ok (.invokevirtual 237, 3) := by decide +kernel
theorem dX7_plates_130 : decode cX7_plates 130 = .ok (.iadd, 1) := by decide +kernel
theorem dX7_plates_131 : decode cX7_plates 131 = .ok (.iload 4, 2) := by decide +kernel
theorem dX7_plates_133 : decode cX7_plates 133 = .ok (.iload 5, 2) := by decide +kernel
theorem dX7_plates_135 : decode cX7_plates 135 = .ok (.iload 6, 2) := by decide +kernel
theorem dX7_plates_137 : decode cX7_plates 137 = .ok (.invokevirtual 249, 3) := by decide +kernel
theorem dX7_plates_140 : decode cX7_plates 140 = .ok (.iinc 8 1, 3) := by decide +kernel
theorem dX7_plates_143 : decode cX7_plates 143 = .ok (.goto (-72), 3) := by decide +kernel
theorem dX7_plates_146 : decode cX7_plates 146 = .ok (.return_, 1) := by decide +kernel
theorem dX7_plate_0 : decode cX7_plate 0 = .ok (.iload 4, 2) := by decide +kernel
theorem dX7_plate_2 : decode cX7_plate 2 = .ok (.iconst (-1), 1) := by decide +kernel
theorem dX7_plate_3 : decode cX7_plate 3 = .ok (.if_icmp .lt 12, 3) := by decide +kernel
theorem dX7_plate_6 : decode cX7_plate 6 = .ok (.iload 4, 2) := by decide +kernel
theorem dX7_plate_8 : decode cX7_plate 8 = .ok (.aload_n 0, 1) := by decide +kernel
theorem dX7_plate_9 : decode cX7_plate 9 = .ok (.getfield 90, 3) := by decide +kernel
theorem dX7_plate_12 : decode cX7_plate 12 = .ok (.if_icmp .lt 10, 3) := by decide +kernel
theorem dX7_plate_15 : decode cX7_plate 15 = .ok (.aload_n 0, 1) := by decide +kernel
theorem dX7_plate_16 : decode cX7_plate 16 = .ok (.bipush (-5), 2) := by decide +kernel
theorem dX7_plate_18 : decode cX7_plate 18 = .ok (.invokevirtual 100, 3) := by decide +kernel
theorem dX7_plate_21 : decode cX7_plate 21 = .ok (.ireturn, 1) := by decide +kernel
theorem dX7_plate_22 : decode cX7_plate 22 = .ok (.aload_n 0, 1) := by decide +kernel
theorem dX7_plate_23 : decode cX7_plate 23 = .ok (.iload_n 1, 1) := by decide +kernel
theorem dX7_plate_24 : decode cX7_plate 24 = .ok (.iload_n 2, 1) := by decide +kernel
theorem dX7_plate_25 : decode cX7_plate 25 = .ok (.iload_n 3, 1) := by decide +kernel
theorem dX7_plate_26 : decode cX7_plate 26 = .ok (.invokevirtual 226, 3) := by decide +kernel
theorem dX7_plate_29 : decode cX7_plate 29 = .ok (.ifCond .eq 11, 3) := by decide +kernel
theorem dX7_plate_32 : decode cX7_plate 32 = .ok (.aload_n 0, 1) := by decide +kernel
theorem dX7_plate_33 : decode cX7_plate 33 = .ok (.getfield 90, 3) := by decide +kernel
theorem dX7_plate_36 : decode cX7_plate 36 = .ok (.iconst 5, 1) := by decide +kernel
theorem dX7_plate_37 : decode cX7_plate 37 = .ok (.if_icmp .le 10, 3) := by decide +kernel
theorem dX7_plate_40 : decode cX7_plate 40 = .ok (.aload_n 0, 1) := by decide +kernel
theorem dX7_plate_41 : decode cX7_plate 41 = .ok (.bipush (-6), 2) := by decide +kernel
theorem dX7_plate_43 : decode cX7_plate 43 = .ok (.invokevirtual 100, 3) := by decide +kernel
theorem dX7_plate_46 : decode cX7_plate 46 = .ok (.ireturn, 1) := by decide +kernel
theorem dX7_plate_47 : decode cX7_plate 47 = .ok (.aload_n 0, 1) := by decide +kernel
theorem dX7_plate_48 : decode cX7_plate 48 = .ok (.iconst (-1), 1) := by decide +kernel
theorem dX7_plate_49 : decode cX7_plate 49 = .ok (.putfield 243, 3) := by decide +kernel
theorem dX7_plate_52 : decode cX7_plate 52 = .ok (.aload_n 0, 1) := by decide +kernel
theorem dX7_plate_53 : decode cX7_plate 53 = .ok (.iconst 0, 1) := by decide +kernel
theorem dX7_plate_54 : decode cX7_plate 54 = .ok (.iconst 0, 1) := by decide +kernel
theorem dX7_plate_55 : decode cX7_plate 55 = .ok (.iconst 0, 1) := by decide +kernel
theorem dX7_plate_56 : decode cX7_plate 56 = .ok (.iload_n 1, 1) := by decide +kernel
theorem dX7_plate_57 : decode cX7_plate 57 = .ok (.iload_n 2, 1) := by decide +kernel
theorem dX7_plate_58 : decode cX7_plate 58 = .ok (.iload_n 3, 1) := by decide +kernel
theorem dX7_plate_59 : decode cX7_plate 59 = .ok (.invokevirtual 249, 3) := by decide +kernel
theorem dX7_plate_62 : decode cX7_plate 62 = .ok (.iload 4, 2) := by decide +kernel
theorem dX7_plate_64 : decode cX7_plate 64 = .ok (.iconst (-1), 1) := by decide +kernel
theorem dX7_plate_65 : decode cX7_plate 65 = .ok (.if_icmp .ne 10, 3) := by decide +kernel
theorem dX7_plate_68 : decode cX7_plate 68 = .ok (.aload_n 0, 1) := by decide +kernel
theorem dX7_plate_69 : decode cX7_plate 69 = .ok (.getfield 243, 3) := by decide +kernel
theorem dX7_plate_72 : decode cX7_plate 72 = .ok (.goto 10, 3) := by decide +kernel
theorem dX7_plate_75 : decode cX7_plate 75 = .ok (.aload_n 0, 1) := by decide +kernel
theorem dX7_plate_76 : decode cX7_plate 76 = .ok (.getfield 84, 3) := by decide +kernel
theorem dX7_plate_79 : decode cX7_plate 79 = .ok (.iload 4, 2) := by decide +kernel
theorem dX7_plate_81 : decode cX7_plate 81 = .ok (.iaload, 1) := by decide +kernel
theorem dX7_plate_82 : decode cX7_plate 82 = .ok (.ireturn, 1) := by decide +kernel
theorem dX7_rule_0 : decode cX7_rule 0 = .ok (.iload_n 1, 1) := by decide +kernel
theorem dX7_rule_1 : decode cX7_rule 1 = .ok (.ifCond .lt 31, 3) := by decide +kernel
theorem dX7_rule_4 : decode cX7_rule 4 = .ok (.iload_n 1, 1) := by decide +kernel
theorem dX7_rule_5 : decode cX7_rule 5 = .ok (.bipush 99, 2) := by decide +kernel
theorem dX7_rule_7 : decode cX7_rule 7 = .ok (.if_icmp .gt 25, 3) := by decide +kernel
theorem dX7_rule_10 : decode cX7_rule 10 = .ok (.iload_n 2, 1) := by decide +kernel
theorem dX7_rule_11 : decode cX7_rule 11 = .ok (.iconst 1, 1) := by decide +kernel
theorem dX7_rule_12 : decode cX7_rule 12 = .ok (.if_icmp .lt 20, 3) := by decide +kernel
theorem dX7_rule_15 : decode cX7_rule 15 = .ok (.iload_n 2, 1) := by decide +kernel
theorem dX7_rule_16 : decode cX7_rule 16 = .ok (.bipush 99, 2) := by decide +kernel
theorem dX7_rule_18 : decode cX7_rule 18 = .ok (.if_icmp .gt 14, 3) := by decide +kernel
theorem dX7_rule_21 : decode cX7_rule 21 = .ok (.aload_n 0, 1) := by decide +kernel
theorem dX7_rule_22 : decode cX7_rule 22 = .ok (.iload_n 3, 1) := by decide +kernel
theorem dX7_rule_23 : decode cX7_rule 23 = .ok (.iconst 0, 1) := by decide +kernel
theorem dX7_rule_24 : decode cX7_rule 24 = .ok (.iload 4, 2) := by decide +kernel
theorem dX7_rule_26 : decode cX7_rule 26 = .ok (.invokevirtual 226, 3) := by decide +kernel
theorem dX7_rule_29 : decode cX7_rule 29 = .ok (.ifCond .ne 10, 3) := by decide +kernel
theorem dX7_rule_32 : decode cX7_rule 32 = .ok (.aload_n 0, 1) := by decide +kernel
theorem dX7_rule_33 : decode cX7_rule 33 = .ok (.bipush (-6), 2) := by decide +kernel
theorem dX7_rule_35 : decode cX7_rule 35 = .ok (.invokevirtual 100, 3) := by decide +kernel
theorem dX7_rule_38 : decode cX7_rule 38 = .ok (.ireturn, 1) := by decide +kernel
theorem dX7_rule_39 : decode cX7_rule 39 = .ok (.iload_n 1, 1) := by decide +kernel
theorem dX7_rule_40 : decode cX7_rule 40 = .ok (.aload_n 0, 1) := by decide +kernel
theorem dX7_rule_41 : decode cX7_rule 41 = .ok (.getfield 7, 3) := by decide +kernel
theorem dX7_rule_44 : decode cX7_rule 44 = .ok (.iload_n 2, 1) := by decide +kernel
theorem dX7_rule_45 : decode cX7_rule 45 = .ok (.idiv, 1) := by decide +kernel
theorem dX7_rule_46 : decode cX7_rule 46 = .ok (.isub, 1) := by decide +kernel
theorem dX7_rule_47 : decode cX7_rule 47 = .ok (.istore 5, 2) := by decide +kernel
theorem dX7_rule_49 : decode cX7_rule 49 = .ok (.iconst 0, 1) := by decide +kernel
theorem dX7_rule_50 : decode cX7_rule 50 = .ok (.istore 6, 2) := by decide +kernel
theorem dX7_rule_52 : decode cX7_rule 52 = .ok (.iload 5, 2) := by decide +kernel
theorem dX7_rule_54 : decode cX7_rule 54 = .ok (.ifCond .ge 7, 3) := by decide +kernel
theorem dX7_rule_57 : decode cX7_rule 57 = .ok (.iconst 0, 1) := by decide +kernel
theorem dX7_rule_58 : decode cX7_rule 58 = .ok (.goto 17, 3) := by decide +kernel
theorem dX7_rule_61 : decode cX7_rule 61 = .ok (.iload 5, 2) := by decide +kernel
theorem dX7_rule_63 : decode cX7_rule 63 = .ok (.bipush 60, 2) := by decide +kernel
theorem dX7_rule_65 : decode cX7_rule 65 = .ok (.if_icmp .le 8, 3) := by decide +kernel
theorem dX7_rule_68 : decode cX7_rule 68 = .ok (.bipush 60, 2) := by decide +kernel
theorem dX7_rule_70 : decode cX7_rule 70 = .ok (.goto 5, 3) := by decide +kernel
theorem dX7_rule_73 : decode cX7_rule 73 = .ok (.iload 5, 2) := by decide +kernel
theorem dX7_rule_75 : decode cX7_rule 75 = .ok (.istore 5, 2) := by decide +kernel
theorem dX7_rule_77 : decode cX7_rule 77 = .ok (.iconst 0, 1) := by decide +kernel
theorem dX7_rule_78 : decode cX7_rule 78 = .ok (.istore 7, 2) := by decide +kernel
theorem dX7_rule_80 : decode cX7_rule 80 = .ok (.iload 7, 2) := by decide +kernel
theorem dX7_rule_82 : decode cX7_rule 82 = .ok (.aload_n 0, 1) := by decide +kernel
theorem dX7_rule_83 : decode cX7_rule 83 = .ok (.getfield 90, 3) := by decide +kernel
theorem dX7_rule_86 : decode cX7_rule 86 = .ok (.if_icmp .ge 33, 3) := by decide +kernel
theorem dX7_rule_89 : decode cX7_rule 89 = .ok (.aload_n 0, 1) := by decide +kernel
theorem dX7_rule_90 : decode cX7_rule 90 = .ok (.iload 7, 2) := by decide +kernel
theorem dX7_rule_92 : decode cX7_rule 92 = .ok (.iload_n 3, 1) := by decide +kernel
theorem dX7_rule_93 : decode cX7_rule 93 = .ok (.iload 5, 2) := by decide +kernel
theorem dX7_rule_95 : decode cX7_rule 95 = .ok (.iload 4, 2) := by decide +kernel
theorem dX7_rule_97 : decode cX7_rule 97 = .ok (.aload_n 0, 1) := by decide +kernel
theorem dX7_rule_98 : decode cX7_rule 98 = .ok (.getfield 7, 3) := by decide +kernel
theorem dX7_rule_101 : decode cX7_rule 101 = .ok (.invokevirtual 230, 3) := by decide +kernel
theorem dX7_rule_104 : decode cX7_rule 104 = .ok (.iload 6, 2) := by decide +kernel
theorem dX7_rule_106 : decode cX7_rule 106 = .ok (.aload_n 0, 1) := by decide +kernel
theorem dX7_rule_107 : decode cX7_rule 107 = .ok (.invokevirtual 237, 3) := by decide +kernel
theorem dX7_rule_110 : decode cX7_rule 110 = .ok (.iadd, 1) := by decide +kernel
theorem dX7_rule_111 : decode cX7_rule 111 = .ok (.istore 6, 2) := by decide +kernel
theorem dX7_rule_113 : decode cX7_rule 113 = .ok (.iinc 7 1, 3) := by decide +kernel
theorem dX7_rule_116 : decode cX7_rule 116 = .ok (.goto (-36), 3) := by decide +kernel
theorem dX7_rule_119 : decode cX7_rule 119 = .ok (.iload 6, 2) := by decide +kernel
theorem dX7_rule_121 : decode cX7_rule 121 = .ok (.ireturn, 1) := by decide +kernel
theorem dX7_isBack_0 : decode cX7_isBack 0 = .ok (.aload_n 0, 1) := by decide +kernel
theorem dX7_isBack_1 : decode cX7_isBack 1 = .ok (.aload_n 0, 1) := by decide +kernel
theorem dX7_isBack_2 : decode cX7_isBack 2 = .ok (.getfield 35, 3) := by decide +kernel
theorem dX7_isBack_5 : decode cX7_isBack 5 = .ok (.iload_n 1, 1) := by decide +kernel
theorem dX7_isBack_6 : decode cX7_isBack 6 = .ok (.iaload, 1) := by decide +kernel
theorem dX7_isBack_7 : decode cX7_isBack 7 = .ok (.putfield 177, 3) := by decide +kernel
theorem dX7_isBack_10 : decode cX7_isBack 10 = .ok (.iconst 0, 1) := by decide +kernel
theorem dX7_isBack_11 : decode cX7_isBack 11 = .ok (.istore 6, 2) := by decide +kernel
theorem dX7_isBack_13 : decode cX7_isBack 13 = .ok (.iload 6, 2) := by decide +kernel
theorem dX7_isBack_15 : decode cX7_isBack 15 = .ok (.aload_n 0, 1) := by decide +kernel
theorem dX7_isBack_16 : decode cX7_isBack 16 = .ok (.getfield 177, 3) := by decide +kernel
theorem dX7_isBack_19 : decode cX7_isBack 19 = .ok (.if_icmp .ge 17, 3) := by decide +kernel
theorem dX7_isBack_22 : decode cX7_isBack 22 = .ok (.aload_n 0, 1) := by decide +kernel
theorem dX7_isBack_23 : decode cX7_isBack 23 = .ok (.getfield 75, 3) := by decide +kernel
theorem dX7_isBack_26 : decode cX7_isBack 26 = .ok (.iload 6, 2) := by decide +kernel
theorem dX7_isBack_28 : decode cX7_isBack 28 = .ok (.iconst 0, 1) := by decide +kernel
theorem dX7_isBack_29 : decode cX7_isBack 29 = .ok (.iastore, 1) := by decide +kernel
theorem dX7_isBack_30 : decode cX7_isBack 30 = .ok (.iinc 6 1, 3) := by decide +kernel
theorem dX7_isBack_33 : decode cX7_isBack 33 = .ok (.goto (-20), 3) := by decide +kernel
theorem dX7_isBack_36 : decode cX7_isBack 36 = .ok (.aload_n 0, 1) := by decide +kernel
theorem dX7_isBack_37 : decode cX7_isBack 37 = .ok (.iconst 0, 1) := by decide +kernel
theorem dX7_isBack_38 : decode cX7_isBack 38 = .ok (.putfield 183, 3) := by decide +kernel
theorem dX7_isBack_41 : decode cX7_isBack 41 = .ok (.aload_n 0, 1) := by decide +kernel
theorem dX7_isBack_42 : decode cX7_isBack 42 = .ok (.iload_n 1, 1) := by decide +kernel
theorem dX7_isBack_43 : decode cX7_isBack 43 = .ok (.iload_n 3, 1) := by decide +kernel
theorem dX7_isBack_44 : decode cX7_isBack 44 = .ok (.iload 4, 2) := by decide +kernel
theorem dX7_isBack_46 : decode cX7_isBack 46 = .ok (.iload 5, 2) := by decide +kernel
theorem dX7_isBack_48 : decode cX7_isBack 48 = .ok (.iconst 0, 1) := by decide +kernel
theorem dX7_isBack_49 : decode cX7_isBack 49 = .ok (.invokevirtual 210, 3) := by decide +kernel
theorem dX7_isBack_52 : decode cX7_isBack 52 = .ok (.aload_n 0, 1) := by decide +kernel
theorem dX7_isBack_53 : decode cX7_isBack 53 = .ok (.getfield 183, 3) := by decide +kernel
theorem dX7_isBack_56 : decode cX7_isBack 56 = .ok (.ifCond .le 5, 3) := by decide +kernel
theorem dX7_isBack_59 : decode cX7_isBack 59 = .ok (.iconst 0, 1) := by decide +kernel
theorem dX7_isBack_60 : decode cX7_isBack 60 = .ok (.ireturn, 1) := by decide +kernel
theorem dX7_isBack_61 : decode cX7_isBack 61 = .ok (.iconst 0, 1) := by decide +kernel
theorem dX7_isBack_62 : decode cX7_isBack 62 = .ok (.istore 6, 2) := by decide +kernel
theorem dX7_isBack_64 : decode cX7_isBack 64 = .ok (.iload 6, 2) := by decide +kernel
theorem dX7_isBack_66 : decode cX7_isBack 66 = .ok (.aload_n 0, 1) := by decide +kernel
theorem dX7_isBack_67 : decode cX7_isBack 67 = .ok (.getfield 177, 3) := by decide +kernel
theorem dX7_isBack_70 : decode cX7_isBack 70 = .ok (.if_icmp .ge 35, 3) := by decide +kernel
theorem dX7_isBack_73 : decode cX7_isBack 73 = .ok (.aload_n 0, 1) := by decide +kernel
theorem dX7_isBack_74 : decode cX7_isBack 74 = .ok (.getfield 56, 3) := by decide +kernel
theorem dX7_isBack_77 : decode cX7_isBack 77 = .ok (.sipush 160, 3) := by decide +kernel
theorem dX7_isBack_80 : decode cX7_isBack 80 = .ok (.iload_n 2, 1) := by decide +kernel
theorem dX7_isBack_81 : decode cX7_isBack 81 = .ok (.imul, 1) := by decide +kernel
theorem dX7_isBack_82 : decode cX7_isBack 82 = .ok (.iload 6, 2) := by decide +kernel
theorem dX7_isBack_84 : decode cX7_isBack 84 = .ok (.iadd, 1) := by decide +kernel
theorem dX7_isBack_85 : decode cX7_isBack 85 = .ok (.laload, 1) := by decide +kernel
theorem dX7_isBack_86 : decode cX7_isBack 86 = .ok (.l2i, 1) := by decide +kernel
theorem dX7_isBack_87 : decode cX7_isBack 87 = .ok (.aload_n 0, 1) := by decide +kernel
theorem dX7_isBack_88 : decode cX7_isBack 88 = .ok (.getfield 75, 3) := by decide +kernel
theorem dX7_isBack_91 : decode cX7_isBack 91 = .ok (.iload 6, 2) := by decide +kernel
theorem dX7_isBack_93 : decode cX7_isBack 93 = .ok (.iaload, 1) := by decide +kernel
theorem dX7_isBack_94 : decode cX7_isBack 94 = .ok (.if_icmp .eq 5, 3) := by decide +kernel
theorem dX7_isBack_97 : decode cX7_isBack 97 = .ok (.iconst 0, 1) := by decide +kernel
theorem dX7_isBack_98 : decode cX7_isBack 98 = .ok (.ireturn, 1) := by decide +kernel
theorem dX7_isBack_99 : decode cX7_isBack 99 = .ok (.iinc 6 1, 3) := by decide +kernel
theorem dX7_isBack_102 : decode cX7_isBack 102 = .ok (.goto (-38), 3) := by decide +kernel
theorem dX7_isBack_105 : decode cX7_isBack 105 = .ok (.iconst 1, 1) := by decide +kernel
theorem dX7_isBack_106 : decode cX7_isBack 106 = .ok (.ireturn, 1) := by decide +kernel
theorem dX7_bars_0 : decode cX7_bars 0 = .ok (.aload_n 0, 1) := by decide +kernel
theorem dX7_bars_1 : decode cX7_bars 1 = .ok (.iload_n 2, 1) := by decide +kernel
theorem dX7_bars_2 : decode cX7_bars 2 = .ok (.invokevirtual 97, 3) := by decide +kernel
theorem dX7_bars_5 : decode cX7_bars 5 = .ok (.ifCond .eq 15, 3) := by decide +kernel
theorem dX7_bars_8 : decode cX7_bars 8 = .ok (.aload_n 0, 1) := by decide +kernel
theorem dX7_bars_9 : decode cX7_bars 9 = .ok (.iload_n 1, 1) := by decide +kernel
theorem dX7_bars_10 : decode cX7_bars 10 = .ok (.invokevirtual 93, 3) := by decide +kernel
theorem dX7_bars_13 : decode cX7_bars 13 = .ok (.ifCond .ne 7, 3) := by decide +kernel
theorem dX7_bars_16 : decode cX7_bars 16 = .ok (.iconst (-1), 1) := by decide +kernel
theorem dX7_bars_17 : decode cX7_bars 17 = .ok (.goto 8, 3) := by decide +kernel
theorem dX7_bars_20 : decode cX7_bars 20 = .ok (.aload_n 0, 1) := by decide +kernel
theorem dX7_bars_21 : decode cX7_bars 21 = .ok (.iload_n 2, 1) := by decide +kernel
theorem dX7_bars_22 : decode cX7_bars 22 = .ok (.invokevirtual 167, 3) := by decide +kernel
theorem dX7_bars_25 : decode cX7_bars 25 = .ok (.istore_n 3, 1) := by decide +kernel
theorem dX7_bars_26 : decode cX7_bars 26 = .ok (.iload_n 3, 1) := by decide +kernel
theorem dX7_bars_27 : decode cX7_bars 27 = .ok (.ifCond .eq 7, 3) := by decide +kernel
theorem dX7_bars_30 : decode cX7_bars 30 = .ok (.iload_n 3, 1) := by decide +kernel
theorem dX7_bars_31 : decode cX7_bars 31 = .ok (.goto 24, 3) := by decide +kernel
theorem dX7_bars_34 : decode cX7_bars 34 = .ok (.aload_n 0, 1) := by decide +kernel
theorem dX7_bars_35 : decode cX7_bars 35 = .ok (.getfield 35, 3) := by decide +kernel
theorem dX7_bars_38 : decode cX7_bars 38 = .ok (.iload_n 1, 1) := by decide +kernel
theorem dX7_bars_39 : decode cX7_bars 39 = .ok (.iaload, 1) := by decide +kernel
theorem dX7_bars_40 : decode cX7_bars 40 = .ok (.aload_n 0, 1) := by decide +kernel
theorem dX7_bars_41 : decode cX7_bars 41 = .ok (.getfield 50, 3) := by decide +kernel
theorem dX7_bars_44 : decode cX7_bars 44 = .ok (.iload_n 2, 1) := by decide +kernel
theorem dX7_bars_45 : decode cX7_bars 45 = .ok (.iaload, 1) := by decide +kernel
theorem dX7_bars_46 : decode cX7_bars 46 = .ok (.if_icmp .le 8, 3) := by decide +kernel
theorem dX7_bars_49 : decode cX7_bars 49 = .ok (.bipush (-5), 2) := by decide +kernel
theorem dX7_bars_51 : decode cX7_bars 51 = .ok (.goto 4, 3) := by decide +kernel
theorem dX7_bars_54 : decode cX7_bars 54 = .ok (.iconst 0, 1) := by decide +kernel
theorem dX7_bars_55 : decode cX7_bars 55 = .ok (.ireturn, 1) := by decide +kernel
theorem dX7_back_0 : decode cX7_back 0 = .ok (.aload_n 0, 1) := by decide +kernel
theorem dX7_back_1 : decode cX7_back 1 = .ok (.iload_n 1, 1) := by decide +kernel
theorem dX7_back_2 : decode cX7_back 2 = .ok (.iload_n 2, 1) := by decide +kernel
theorem dX7_back_3 : decode cX7_back 3 = .ok (.invokevirtual 253, 3) := by decide +kernel
theorem dX7_back_6 : decode cX7_back 6 = .ok (.istore 4, 2) := by decide +kernel
theorem dX7_back_8 : decode cX7_back 8 = .ok (.iload 4, 2) := by decide +kernel
theorem dX7_back_10 : decode cX7_back 10 = .ok (.ifCond .ne 15, 3) := by decide +kernel
theorem dX7_back_13 : decode cX7_back 13 = .ok (.aload_n 0, 1) := by decide +kernel
theorem dX7_back_14 : decode cX7_back 14 = .ok (.iload_n 3, 1) := by decide +kernel
theorem dX7_back_15 : decode cX7_back 15 = .ok (.invokevirtual 220, 3) := by decide +kernel
theorem dX7_back_18 : decode cX7_back 18 = .ok (.ifCond .ne 7, 3) := by decide +kernel
theorem dX7_back_21 : decode cX7_back 21 = .ok (.bipush (-6), 2) := by decide +kernel
theorem dX7_back_23 : decode cX7_back 23 = .ok (.istore 4, 2) := by decide +kernel
theorem dX7_back_25 : decode cX7_back 25 = .ok (.iload 4, 2) := by decide +kernel
theorem dX7_back_27 : decode cX7_back 27 = .ok (.ifCond .eq 11, 3) := by decide +kernel
theorem dX7_back_30 : decode cX7_back 30 = .ok (.aload_n 0, 1) := by decide +kernel
theorem dX7_back_31 : decode cX7_back 31 = .ok (.iload 4, 2) := by decide +kernel
theorem dX7_back_33 : decode cX7_back 33 = .ok (.invokevirtual 100, 3) := by decide +kernel
theorem dX7_back_36 : decode cX7_back 36 = .ok (.i2l, 1) := by decide +kernel
theorem dX7_back_37 : decode cX7_back 37 = .ok (.lreturn, 1) := by decide +kernel
theorem dX7_back_38 : decode cX7_back 38 = .ok (.lconst 0, 1) := by decide +kernel
theorem dX7_back_39 : decode cX7_back 39 = .ok (.lstore 5, 2) := by decide +kernel
theorem dX7_back_41 : decode cX7_back 41 = .ok (.iconst 0, 1) := by decide +kernel
theorem dX7_back_42 : decode cX7_back 42 = .ok (.istore 7, 2) := by decide +kernel
theorem dX7_back_44 : decode cX7_back 44 = .ok (.iload 7, 2) := by decide +kernel
theorem dX7_back_46 : decode cX7_back 46 = .ok (.bipush 60, 2) := by decide +kernel
theorem dX7_back_48 : decode cX7_back 48 = .ok (.if_icmp .gt 34, 3) := by decide +kernel
theorem dX7_back_51 : decode cX7_back 51 = .ok (.aload_n 0, 1) := by decide +kernel
theorem dX7_back_52 : decode cX7_back 52 = .ok (.iload_n 1, 1) := by decide +kernel
theorem dX7_back_53 : decode cX7_back 53 = .ok (.iload_n 2, 1) := by decide +kernel
theorem dX7_back_54 : decode cX7_back 54 = .ok (.iload_n 3, 1) := by decide +kernel
theorem dX7_back_55 : decode cX7_back 55 = .ok (.iload 7, 2) := by decide +kernel
theorem dX7_back_57 : decode cX7_back 57 = .ok (.aload_n 0, 1) := by decide +kernel
theorem dX7_back_58 : decode cX7_back 58 = .ok (.getfield 7, 3) := by decide +kernel
theorem dX7_back_61 : decode cX7_back 61 = .ok (.invokevirtual 256, 3) := by decide +kernel
theorem dX7_back_64 : decode cX7_back 64 = .ok (.ifCond .eq 12, 3) := by decide +kernel
theorem dX7_back_67 : decode cX7_back 67 = .ok (.lload 5, 2) := by decide +kernel
theorem dX7_back_69 : decode cX7_back 69 = .ok (.lconst 1, 1) := by decide +kernel
theorem dX7_back_70 : decode cX7_back 70 = .ok (.iload 7, 2) := by decide +kernel
theorem dX7_back_72 : decode cX7_back 72 = .ok (.lshl, 1) := by decide +kernel
theorem dX7_back_73 : decode cX7_back 73 = .ok (.lor, 1) := by decide +kernel
theorem dX7_back_74 : decode cX7_back 74 = .ok (.lstore 5, 2) := by decide +kernel
theorem dX7_back_76 : decode cX7_back 76 = .ok (.iinc 7 1, 3) := by decide +kernel
theorem dX7_back_79 : decode cX7_back 79 = .ok (.goto (-35), 3) := by decide +kernel
theorem dX7_back_82 : decode cX7_back 82 = .ok (.lload 5, 2) := by decide +kernel
theorem dX7_back_84 : decode cX7_back 84 = .ok (.lreturn, 1) := by decide +kernel
theorem dX7_heats_0 : decode cX7_heats 0 = .ok (.aload_n 0, 1) := by decide +kernel
theorem dX7_heats_1 : decode cX7_heats 1 = .ok (.iload_n 1, 1) := by decide +kernel
theorem dX7_heats_2 : decode cX7_heats 2 = .ok (.iload_n 2, 1) := by decide +kernel
theorem dX7_heats_3 : decode cX7_heats 3 = .ok (.invokevirtual 253, 3) := by decide +kernel
theorem dX7_heats_6 : decode cX7_heats 6 = .ok (.istore 5, 2) := by decide +kernel
theorem dX7_heats_8 : decode cX7_heats 8 = .ok (.iload 5, 2) := by decide +kernel
theorem dX7_heats_10 : decode cX7_heats 10 = .ok (.ifCond .ne 18, 3) := by decide +kernel
theorem dX7_heats_13 : decode cX7_heats 13 = .ok (.aload_n 0, 1) := by decide +kernel
theorem dX7_heats_14 : decode cX7_heats 14 = .ok (.iload_n 3, 1) := by decide +kernel
theorem dX7_heats_15 : decode cX7_heats 15 = .ok (.iload 4, 2) := by decide +kernel
theorem dX7_heats_17 : decode cX7_heats 17 = .ok (.iconst 0, 1) := by decide +kernel
theorem dX7_heats_18 : decode cX7_heats 18 = .ok (.invokevirtual 226, 3) := by decide +kernel
theorem dX7_heats_21 : decode cX7_heats 21 = .ok (.ifCond .ne 7, 3) := by decide +kernel
theorem dX7_heats_24 : decode cX7_heats 24 = .ok (.bipush (-6), 2) := by decide +kernel
theorem dX7_heats_26 : decode cX7_heats 26 = .ok (.istore 5, 2) := by decide +kernel
theorem dX7_heats_28 : decode cX7_heats 28 = .ok (.iload 5, 2) := by decide +kernel
theorem dX7_heats_30 : decode cX7_heats 30 = .ok (.ifCond .eq 10, 3) := by decide +kernel
theorem dX7_heats_33 : decode cX7_heats 33 = .ok (.aload_n 0, 1) := by decide +kernel
theorem dX7_heats_34 : decode cX7_heats 34 = .ok (.iload 5, 2) := by decide +kernel
theorem dX7_heats_36 : decode cX7_heats 36 = .ok (.invokevirtual 217, 3) := by decide +kernel
theorem dX7_heats_39 : decode cX7_heats 39 = .ok (.ireturn, 1) := by decide +kernel
theorem dX7_heats_40 : decode cX7_heats 40 = .ok (.iconst 0, 1) := by decide +kernel
theorem dX7_heats_41 : decode cX7_heats 41 = .ok (.istore 6, 2) := by decide +kernel
theorem dX7_heats_43 : decode cX7_heats 43 = .ok (.iload 6, 2) := by decide +kernel
theorem dX7_heats_45 : decode cX7_heats 45 = .ok (.bipush 99, 2) := by decide +kernel
theorem dX7_heats_47 : decode cX7_heats 47 = .ok (.if_icmp .gt 26, 3) := by decide +kernel
theorem dX7_heats_50 : decode cX7_heats 50 = .ok (.aload_n 0, 1) := by decide +kernel
theorem dX7_heats_51 : decode cX7_heats 51 = .ok (.iload_n 1, 1) := by decide +kernel
theorem dX7_heats_52 : decode cX7_heats 52 = .ok (.iload_n 2, 1) := by decide +kernel
theorem dX7_heats_53 : decode cX7_heats 53 = .ok (.iload_n 3, 1) := by decide +kernel
theorem dX7_heats_54 : decode cX7_heats 54 = .ok (.iload 4, 2) := by decide +kernel
theorem dX7_heats_56 : decode cX7_heats 56 = .ok (.iload 6, 2) := by decide +kernel
theorem dX7_heats_58 : decode cX7_heats 58 = .ok (.invokevirtual 256, 3) := by decide +kernel
theorem dX7_heats_61 : decode cX7_heats 61 = .ok (.ifCond .eq 6, 3) := by decide +kernel
theorem dX7_heats_64 : decode cX7_heats 64 = .ok (.iload 6, 2) := by decide +kernel
theorem dX7_heats_66 : decode cX7_heats 66 = .ok (.ireturn, 1) := by decide +kernel
theorem dX7_heats_67 : decode cX7_heats 67 = .ok (.iinc 6 1, 3) := by decide +kernel
theorem dX7_heats_70 : decode cX7_heats 70 = .ok (.goto (-27), 3) := by decide +kernel
theorem dX7_heats_73 : decode cX7_heats 73 = .ok (.iconst (-1), 1) := by decide +kernel
theorem dX7_heats_74 : decode cX7_heats 74 = .ok (.ireturn, 1) := by decide +kernel
theorem dX7_fetch_0 : decode cX7_fetch 0 = .ok (.iload_n 1, 1) := by decide +kernel
theorem dX7_fetch_1 : decode cX7_fetch 1 = .ok (.iconst 1, 1) := by decide +kernel
theorem dX7_fetch_2 : decode cX7_fetch 2 = .ok (.if_icmp .lt 17, 3) := by decide +kernel
theorem dX7_fetch_5 : decode cX7_fetch 5 = .ok (.iload_n 1, 1) := by decide +kernel
theorem dX7_fetch_6 : decode cX7_fetch 6 = .ok (.bipush 12, 2) := by decide +kernel
theorem dX7_fetch_8 : decode cX7_fetch 8 = .ok (.if_icmp .gt 11, 3) := by decide +kernel
theorem dX7_fetch_11 : decode cX7_fetch 11 = .ok (.aload_n 0, 1) := by decide +kernel
theorem dX7_fetch_12 : decode cX7_fetch 12 = .ok (.iload_n 2, 1) := by decide +kernel
theorem dX7_fetch_13 : decode cX7_fetch 13 = .ok (.invokevirtual 223, 3) := by decide +kernel
theorem dX7_fetch_16 : decode cX7_fetch 16 = .ok (.ifCond .ne 10, 3) := by decide +kernel
theorem dX7_fetch_19 : decode cX7_fetch 19 = .ok (.aload_n 0, 1) := by decide +kernel
theorem dX7_fetch_20 : decode cX7_fetch 20 = .ok (.bipush (-6), 2) := by decide +kernel
theorem dX7_fetch_22 : decode cX7_fetch 22 = .ok (.invokevirtual 100, 3) := by decide +kernel
theorem dX7_fetch_25 : decode cX7_fetch 25 = .ok (.ireturn, 1) := by decide +kernel
theorem dX7_fetch_26 : decode cX7_fetch 26 = .ok (.iconst 0, 1) := by decide +kernel
theorem dX7_fetch_27 : decode cX7_fetch 27 = .ok (.istore_n 3, 1) := by decide +kernel
theorem dX7_fetch_28 : decode cX7_fetch 28 = .ok (.iconst 0, 1) := by decide +kernel
theorem dX7_fetch_29 : decode cX7_fetch 29 = .ok (.istore 4, 2) := by decide +kernel
theorem dX7_fetch_31 : decode cX7_fetch 31 = .ok (.iload 4, 2) := by decide +kernel
theorem dX7_fetch_33 : decode cX7_fetch 33 = .ok (.aload_n 0, 1) := by decide +kernel
theorem dX7_fetch_34 : decode cX7_fetch 34 = .ok (.getfield 90, 3) := by decide +kernel
theorem dX7_fetch_37 : decode cX7_fetch 37 = .ok (.if_icmp .ge 39, 3) := by decide +kernel
theorem dX7_fetch_40 : decode cX7_fetch 40 = .ok (.aload_n 0, 1) := by decide +kernel
theorem dX7_fetch_41 : decode cX7_fetch 41 = .ok (.getfield 35, 3) := by decide +kernel
theorem dX7_fetch_44 : decode cX7_fetch 44 = .ok (.iload 4, 2) := by decide +kernel
theorem dX7_fetch_46 : decode cX7_fetch 46 = .ok (.iaload, 1) := by decide +kernel
theorem dX7_fetch_47 : decode cX7_fetch 47 = .ok (.iload_n 1, 1) := by decide +kernel
theorem dX7_fetch_48 : decode cX7_fetch 48 = .ok (.if_icmp .lt 22, 3) := by decide +kernel
theorem dX7_fetch_51 : decode cX7_fetch 51 = .ok (.aload_n 0, 1) := by decide +kernel
theorem dX7_fetch_52 : decode cX7_fetch 52 = .ok (.iload 4, 2) := by decide +kernel
theorem dX7_fetch_54 : decode cX7_fetch 54 = .ok (.iload_n 1, 1) := by decide +kernel
theorem dX7_fetch_55 : decode cX7_fetch 55 = .ok (.iload_n 2, 1) := by decide +kernel
theorem dX7_fetch_56 : decode cX7_fetch 56 = .ok (.iconst 0, 1) := by decide +kernel
theorem dX7_fetch_57 : decode cX7_fetch 57 = .ok (.invokevirtual 233, 3) := by decide +kernel
theorem dX7_fetch_60 : decode cX7_fetch 60 = .ok (.ifCond .eq 10, 3) := by decide +kernel
theorem dX7_fetch_63 : decode cX7_fetch 63 = .ok (.iload_n 3, 1) := by decide +kernel
theorem dX7_fetch_64 : decode cX7_fetch 64 = .ok (.iconst 1, 1) := by decide +kernel
theorem dX7_fetch_65 : decode cX7_fetch 65 = .ok (.iload 4, 2) := by decide +kernel
theorem dX7_fetch_67 : decode cX7_fetch 67 = .ok (.ishl, 1) := by decide +kernel
theorem dX7_fetch_68 : decode cX7_fetch 68 = .ok (.ior, 1) := by decide +kernel
theorem dX7_fetch_69 : decode cX7_fetch 69 = .ok (.istore_n 3, 1) := by decide +kernel
theorem dX7_fetch_70 : decode cX7_fetch 70 = .ok (.iinc 4 1, 3) := by decide +kernel
theorem dX7_fetch_73 : decode cX7_fetch 73 = .ok (.goto (-42), 3) := by decide +kernel
theorem dX7_fetch_76 : decode cX7_fetch 76 = .ok (.iload_n 3, 1) := by decide +kernel
theorem dX7_fetch_77 : decode cX7_fetch 77 = .ok (.ireturn, 1) := by decide +kernel
theorem dX7_passes_0 : decode cX7_passes 0 = .ok (.aload_n 0, 1) := by decide +kernel
theorem dX7_passes_1 : decode cX7_passes 1 = .ok (.aload_n 0, 1) := by decide +kernel
theorem dX7_passes_2 : decode cX7_passes 2 = .ok (.iload_n 1, 1) := by decide +kernel
theorem dX7_passes_3 : decode cX7_passes 3 = .ok (.invokevirtual 246, 3) := by decide +kernel
theorem dX7_passes_6 : decode cX7_passes 6 = .ok (.putfield 7, 3) := by decide +kernel
theorem dX7_passes_9 : decode cX7_passes 9 = .ok (.aload_n 0, 1) := by decide +kernel
theorem dX7_passes_10 : decode cX7_passes 10 = .ok (.dup, 1) := by decide +kernel
theorem dX7_passes_11 : decode cX7_passes 11 = .ok (.getfield 164, 3) := by decide +kernel
theorem dX7_passes_14 : decode cX7_passes 14 = .ok (.iload_n 1, 1) := by decide +kernel
theorem dX7_passes_15 : decode cX7_passes 15 = .ok (.iadd, 1) := by decide +kernel
theorem dX7_passes_16 : decode cX7_passes 16 = .ok (.putfield 164, 3) := by decide +kernel
theorem dX7_passes_19 : decode cX7_passes 19 = .ok (.return_, 1) := by decide +kernel
theorem dX7_stays_0 : decode cX7_stays 0 = .ok (.aload_n 0, 1) := by decide +kernel
theorem dX7_stays_1 : decode cX7_stays 1 = .ok (.getfield 35, 3) := by decide +kernel
theorem dX7_stays_4 : decode cX7_stays 4 = .ok (.iload_n 1, 1) := by decide +kernel
theorem dX7_stays_5 : decode cX7_stays 5 = .ok (.aload_n 0, 1) := by decide +kernel
theorem dX7_stays_6 : decode cX7_stays 6 = .ok (.getfield 177, 3) := by decide +kernel
theorem dX7_stays_9 : decode cX7_stays 9 = .ok (.iastore, 1) := by decide +kernel
theorem dX7_stays_10 : decode cX7_stays 10 = .ok (.iconst 0, 1) := by decide +kernel
theorem dX7_stays_11 : decode cX7_stays 11 = .ok (.istore_n 2, 1) := by decide +kernel
theorem dX7_stays_12 : decode cX7_stays 12 = .ok (.iload_n 2, 1) := by decide +kernel
theorem dX7_stays_13 : decode cX7_stays 13 = .ok (.aload_n 0, 1) := by decide +kernel
theorem dX7_stays_14 : decode cX7_stays 14 = .ok (.getfield 177, 3) := by decide +kernel
theorem dX7_stays_17 : decode cX7_stays 17 = .ok (.if_icmp .ge 26, 3) := by decide +kernel
theorem dX7_stays_20 : decode cX7_stays 20 = .ok (.aload_n 0, 1) := by decide +kernel
theorem dX7_stays_21 : decode cX7_stays 21 = .ok (.getfield 38, 3) := by decide +kernel
theorem dX7_stays_24 : decode cX7_stays 24 = .ok (.bipush 12, 2) := by decide +kernel
theorem dX7_stays_26 : decode cX7_stays 26 = .ok (.iload_n 1, 1) := by decide +kernel
theorem dX7_stays_27 : decode cX7_stays 27 = .ok (.imul, 1) := by decide +kernel
theorem dX7_stays_28 : decode cX7_stays 28 = .ok (.iload_n 2, 1) := by decide +kernel
theorem dX7_stays_29 : decode cX7_stays 29 = .ok (.iadd, 1) := by decide +kernel
theorem dX7_stays_30 : decode cX7_stays 30 = .ok (.aload_n 0, 1) := by decide +kernel
theorem dX7_stays_31 : decode cX7_stays 31 = .ok (.getfield 75, 3) := by decide +kernel
theorem dX7_stays_34 : decode cX7_stays 34 = .ok (.iload_n 2, 1) := by decide +kernel
theorem dX7_stays_35 : decode cX7_stays 35 = .ok (.iaload, 1) := by decide +kernel
theorem dX7_stays_36 : decode cX7_stays 36 = .ok (.iastore, 1) := by decide +kernel
theorem dX7_stays_37 : decode cX7_stays 37 = .ok (.iinc 2 1, 3) := by decide +kernel
theorem dX7_stays_40 : decode cX7_stays 40 = .ok (.goto (-28), 3) := by decide +kernel
theorem dX7_stays_43 : decode cX7_stays 43 = .ok (.return_, 1) := by decide +kernel
theorem dX7_dips_0 : decode cX7_dips 0 = .ok (.aload_n 0, 1) := by decide +kernel
theorem dX7_dips_1 : decode cX7_dips 1 = .ok (.iload_n 1, 1) := by decide +kernel
theorem dX7_dips_2 : decode cX7_dips 2 = .ok (.iload_n 2, 1) := by decide +kernel
theorem dX7_dips_3 : decode cX7_dips 3 = .ok (.iload_n 3, 1) := by decide +kernel
theorem dX7_dips_4 : decode cX7_dips 4 = .ok (.iconst 0, 1) := by decide +kernel
theorem dX7_dips_5 : decode cX7_dips 5 = .ok (.aload_n 0, 1) := by decide +kernel
theorem dX7_dips_6 : decode cX7_dips 6 = .ok (.getfield 7, 3) := by decide +kernel
theorem dX7_dips_9 : decode cX7_dips 9 = .ok (.invokevirtual 230, 3) := by decide +kernel
theorem dX7_dips_12 : decode cX7_dips 12 = .ok (.aload_n 0, 1) := by decide +kernel
theorem dX7_dips_13 : decode cX7_dips 13 = .ok (.iload_n 1, 1) := by decide +kernel
theorem dX7_dips_14 : decode cX7_dips 14 = .ok (.invokevirtual 260, 3) := by decide +kernel
theorem dX7_dips_17 : decode cX7_dips 17 = .ok (.aload_n 0, 1) := by decide +kernel
theorem dX7_dips_18 : decode cX7_dips 18 = .ok (.aload_n 0, 1) := by decide +kernel
theorem dX7_dips_19 : decode cX7_dips 19 = .ok (.getfield 16, 3) := by decide +kernel
theorem dX7_dips_22 : decode cX7_dips 22 = .ok (.aload_n 0, 1) := by decide +kernel
theorem dX7_dips_23 : decode cX7_dips 23 = .ok (.getfield 180, 3) := by decide +kernel
theorem dX7_dips_26 : decode cX7_dips 26 = .ok (.if_icmp .le 15, 3) := by decide +kernel
theorem dX7_dips_29 : decode cX7_dips 29 = .ok (.aload_n 0, 1) := by decide +kernel
theorem dX7_dips_30 : decode cX7_dips 30 = .ok (.getfield 16, 3) := by decide +kernel
theorem dX7_dips_33 : decode cX7_dips 33 = .ok (.aload_n 0, 1) := by decide +kernel
theorem dX7_dips_34 : decode cX7_dips 34 = .ok (.getfield 180, 3) := by decide +kernel
theorem dX7_dips_37 : decode cX7_dips 37 = .ok (.isub, 1) := by decide +kernel
theorem dX7_dips_38 : decode cX7_dips 38 = .ok (.goto 4, 3) := by decide +kernel
theorem dX7_dips_41 : decode cX7_dips 41 = .ok (.iconst 0, 1) := by decide +kernel
theorem dX7_dips_42 : decode cX7_dips 42 = .ok (.putfield 16, 3) := by decide +kernel
theorem dX7_dips_45 : decode cX7_dips 45 = .ok (.aload_n 0, 1) := by decide +kernel
theorem dX7_dips_46 : decode cX7_dips 46 = .ok (.dup, 1) := by decide +kernel
theorem dX7_dips_47 : decode cX7_dips 47 = .ok (.getfield 158, 3) := by decide +kernel
theorem dX7_dips_50 : decode cX7_dips 50 = .ok (.aload_n 0, 1) := by decide +kernel
theorem dX7_dips_51 : decode cX7_dips 51 = .ok (.getfield 183, 3) := by decide +kernel
theorem dX7_dips_54 : decode cX7_dips 54 = .ok (.iadd, 1) := by decide +kernel
theorem dX7_dips_55 : decode cX7_dips 55 = .ok (.putfield 158, 3) := by decide +kernel
theorem dX7_dips_58 : decode cX7_dips 58 = .ok (.aload_n 0, 1) := by decide +kernel
theorem dX7_dips_59 : decode cX7_dips 59 = .ok (.iload_n 3, 1) := by decide +kernel
theorem dX7_dips_60 : decode cX7_dips 60 = .ok (.invokevirtual 263, 3) := by decide +kernel
theorem dX7_dips_63 : decode cX7_dips 63 = .ok (.aload_n 0, 1) := by decide +kernel
theorem dX7_dips_64 : decode cX7_dips 64 = .ok (.getfield 183, 3) := by decide +kernel
theorem dX7_dips_67 : decode cX7_dips 67 = .ok (.ireturn, 1) := by decide +kernel
theorem dX7_dip_0 : decode cX7_dip 0 = .ok (.aload_n 0, 1) := by decide +kernel
theorem dX7_dip_1 : decode cX7_dip 1 = .ok (.iload_n 1, 1) := by decide +kernel
theorem dX7_dip_2 : decode cX7_dip 2 = .ok (.invokevirtual 93, 3) := by decide +kernel
theorem dX7_dip_5 : decode cX7_dip 5 = .ok (.ifCond .ne 9, 3) := by decide +kernel
theorem dX7_dip_8 : decode cX7_dip 8 = .ok (.aload_n 0, 1) := by decide +kernel
theorem dX7_dip_9 : decode cX7_dip 9 = .ok (.iconst (-1), 1) := by decide +kernel
theorem dX7_dip_10 : decode cX7_dip 10 = .ok (.invokevirtual 100, 3) := by decide +kernel
theorem dX7_dip_13 : decode cX7_dip 13 = .ok (.ireturn, 1) := by decide +kernel
theorem dX7_dip_14 : decode cX7_dip 14 = .ok (.aload_n 0, 1) := by decide +kernel
theorem dX7_dip_15 : decode cX7_dip 15 = .ok (.iload_n 2, 1) := by decide +kernel
theorem dX7_dip_16 : decode cX7_dip 16 = .ok (.iload_n 3, 1) := by decide +kernel
theorem dX7_dip_17 : decode cX7_dip 17 = .ok (.iconst 0, 1) := by decide +kernel
theorem dX7_dip_18 : decode cX7_dip 18 = .ok (.invokevirtual 226, 3) := by decide +kernel
theorem dX7_dip_21 : decode cX7_dip 21 = .ok (.ifCond .eq 22, 3) := by decide +kernel
theorem dX7_dip_24 : decode cX7_dip 24 = .ok (.aload_n 0, 1) := by decide +kernel
theorem dX7_dip_25 : decode cX7_dip 25 = .ok (.getfield 35, 3) := by decide +kernel
theorem dX7_dip_28 : decode cX7_dip 28 = .ok (.iload_n 1, 1) := by decide +kernel
theorem dX7_dip_29 : decode cX7_dip 29 = .ok (.iaload, 1) := by decide +kernel
theorem dX7_dip_30 : decode cX7_dip 30 = .ok (.ifCond .le 13, 3) := by decide +kernel
theorem dX7_dip_33 : decode cX7_dip 33 = .ok (.aload_n 0, 1) := by decide +kernel
theorem dX7_dip_34 : decode cX7_dip 34 = .ok (.iload_n 1, 1) := by decide +kernel
theorem dX7_dip_35 : decode cX7_dip 35 = .ok (.iload_n 2, 1) := by decide +kernel
theorem dX7_dip_36 : decode cX7_dip 36 = .ok (.iload_n 3, 1) := by decide +kernel
theorem dX7_dip_37 : decode cX7_dip 37 = .ok (.invokevirtual 151, 3) := by decide +kernel
theorem dX7_dip_40 : decode cX7_dip 40 = .ok (.goto 9, 3) := by decide +kernel
theorem dX7_dip_43 : decode cX7_dip 43 = .ok (.aload_n 0, 1) := by decide +kernel
theorem dX7_dip_44 : decode cX7_dip 44 = .ok (.bipush (-6), 2) := by decide +kernel
theorem dX7_dip_46 : decode cX7_dip 46 = .ok (.invokevirtual 100, 3) := by decide +kernel
theorem dX7_dip_49 : decode cX7_dip 49 = .ok (.ireturn, 1) := by decide +kernel
theorem dX7_carriesOff_0 : decode cX7_carriesOff 0 = .ok (.aload_n 0, 1) := by decide +kernel
theorem dX7_carriesOff_1 : decode cX7_carriesOff 1 = .ok (.iload_n 1, 1) := by decide +kernel
theorem dX7_carriesOff_2 : decode cX7_carriesOff 2 = .ok (.iconst 0, 1) := by decide +kernel
theorem dX7_carriesOff_3 : decode cX7_carriesOff 3 = .ok (.iconst 0, 1) := by decide +kernel
theorem dX7_carriesOff_4 : decode cX7_carriesOff 4 = .ok (.iload_n 2, 1) := by decide +kernel
theorem dX7_carriesOff_5 : decode cX7_carriesOff 5 = .ok (.aload_n 0, 1) := by decide +kernel
theorem dX7_carriesOff_6 : decode cX7_carriesOff 6 = .ok (.getfield 7, 3) := by decide +kernel
theorem dX7_carriesOff_9 : decode cX7_carriesOff 9 = .ok (.invokevirtual 230, 3) := by decide +kernel
theorem dX7_carriesOff_12 : decode cX7_carriesOff 12 = .ok (.aload_n 0, 1) := by decide +kernel
theorem dX7_carriesOff_13 : decode cX7_carriesOff 13 = .ok (.iload_n 1, 1) := by decide +kernel
theorem dX7_carriesOff_14 : decode cX7_carriesOff 14 = .ok (.invokevirtual 260, 3) := by decide +kernel
theorem dX7_carriesOff_17 : decode cX7_carriesOff 17 = .ok (.aload_n 0, 1) := by decide +kernel
theorem dX7_carriesOff_18 : decode cX7_carriesOff 18 = .ok (.iload_n 2, 1) := by decide +kernel
theorem dX7_carriesOff_19 : decode cX7_carriesOff 19 = .ok (.invokevirtual 263, 3) := by decide +kernel
theorem dX7_carriesOff_22 : decode cX7_carriesOff 22 = .ok (.aload_n 0, 1) := by decide +kernel
theorem dX7_carriesOff_23 : decode cX7_carriesOff 23 = .ok (.getfield 183, 3) := by decide +kernel
theorem dX7_carriesOff_26 : decode cX7_carriesOff 26 = .ok (.ireturn, 1) := by decide +kernel
theorem dX7_carry_0 : decode cX7_carry 0 = .ok (.aload_n 0, 1) := by decide +kernel
theorem dX7_carry_1 : decode cX7_carry 1 = .ok (.iload_n 1, 1) := by decide +kernel
theorem dX7_carry_2 : decode cX7_carry 2 = .ok (.invokevirtual 93, 3) := by decide +kernel
theorem dX7_carry_5 : decode cX7_carry 5 = .ok (.ifCond .ne 9, 3) := by decide +kernel
theorem dX7_carry_8 : decode cX7_carry 8 = .ok (.aload_n 0, 1) := by decide +kernel
theorem dX7_carry_9 : decode cX7_carry 9 = .ok (.iconst (-1), 1) := by decide +kernel
theorem dX7_carry_10 : decode cX7_carry 10 = .ok (.invokevirtual 100, 3) := by decide +kernel
theorem dX7_carry_13 : decode cX7_carry 13 = .ok (.ireturn, 1) := by decide +kernel
theorem dX7_carry_14 : decode cX7_carry 14 = .ok (.aload_n 0, 1) := by decide +kernel
theorem dX7_carry_15 : decode cX7_carry 15 = .ok (.iload_n 2, 1) := by decide +kernel
theorem dX7_carry_16 : decode cX7_carry 16 = .ok (.invokevirtual 223, 3) := by decide +kernel
theorem dX7_carry_19 : decode cX7_carry 19 = .ok (.ifCond .eq 21, 3) := by decide +kernel
theorem dX7_carry_22 : decode cX7_carry 22 = .ok (.aload_n 0, 1) := by decide +kernel
theorem dX7_carry_23 : decode cX7_carry 23 = .ok (.getfield 35, 3) := by decide +kernel
theorem dX7_carry_26 : decode cX7_carry 26 = .ok (.iload_n 1, 1) := by decide +kernel
theorem dX7_carry_27 : decode cX7_carry 27 = .ok (.iaload, 1) := by decide +kernel
theorem dX7_carry_28 : decode cX7_carry 28 = .ok (.ifCond .le 12, 3) := by decide +kernel
theorem dX7_carry_31 : decode cX7_carry 31 = .ok (.aload_n 0, 1) := by decide +kernel
theorem dX7_carry_32 : decode cX7_carry 32 = .ok (.iload_n 1, 1) := by decide +kernel
theorem dX7_carry_33 : decode cX7_carry 33 = .ok (.iload_n 2, 1) := by decide +kernel
theorem dX7_carry_34 : decode cX7_carry 34 = .ok (.invokevirtual 266, 3) := by decide +kernel
theorem dX7_carry_37 : decode cX7_carry 37 = .ok (.goto 9, 3) := by decide +kernel
theorem dX7_carry_40 : decode cX7_carry 40 = .ok (.aload_n 0, 1) := by decide +kernel
theorem dX7_carry_41 : decode cX7_carry 41 = .ok (.bipush (-6), 2) := by decide +kernel
theorem dX7_carry_43 : decode cX7_carry 43 = .ok (.invokevirtual 100, 3) := by decide +kernel
theorem dX7_carry_46 : decode cX7_carry 46 = .ok (.ireturn, 1) := by decide +kernel
theorem dX7_turn_0 : decode cX7_turn 0 = .ok (.aload_n 0, 1) := by decide +kernel
theorem dX7_turn_1 : decode cX7_turn 1 = .ok (.iload_n 1, 1) := by decide +kernel
theorem dX7_turn_2 : decode cX7_turn 2 = .ok (.invokevirtual 93, 3) := by decide +kernel
theorem dX7_turn_5 : decode cX7_turn 5 = .ok (.ifCond .ne 9, 3) := by decide +kernel
theorem dX7_turn_8 : decode cX7_turn 8 = .ok (.aload_n 0, 1) := by decide +kernel
theorem dX7_turn_9 : decode cX7_turn 9 = .ok (.iconst (-1), 1) := by decide +kernel
theorem dX7_turn_10 : decode cX7_turn 10 = .ok (.invokevirtual 100, 3) := by decide +kernel
theorem dX7_turn_13 : decode cX7_turn 13 = .ok (.ireturn, 1) := by decide +kernel
theorem dX7_turn_14 : decode cX7_turn 14 = .ok (.aload_n 0, 1) := by decide +kernel
theorem dX7_turn_15 : decode cX7_turn 15 = .ok (.iload_n 1, 1) := by decide +kernel
theorem dX7_turn_16 : decode cX7_turn 16 = .ok (.invokevirtual 269, 3) := by decide +kernel
theorem dX7_turn_19 : decode cX7_turn 19 = .ok (.aload_n 0, 1) := by decide +kernel
theorem dX7_turn_20 : decode cX7_turn 20 = .ok (.getfield 35, 3) := by decide +kernel
theorem dX7_turn_23 : decode cX7_turn 23 = .ok (.iload_n 1, 1) := by decide +kernel
theorem dX7_turn_24 : decode cX7_turn 24 = .ok (.iaload, 1) := by decide +kernel
theorem dX7_turn_25 : decode cX7_turn 25 = .ok (.ireturn, 1) := by decide +kernel
theorem dX7_eaten_0 : decode cX7_eaten 0 = .ok (.aload_n 0, 1) := by decide +kernel
theorem dX7_eaten_1 : decode cX7_eaten 1 = .ok (.iload_n 1, 1) := by decide +kernel
theorem dX7_eaten_2 : decode cX7_eaten 2 = .ok (.invokevirtual 206, 3) := by decide +kernel
theorem dX7_eaten_5 : decode cX7_eaten 5 = .ok (.aload_n 0, 1) := by decide +kernel
theorem dX7_eaten_6 : decode cX7_eaten 6 = .ok (.invokevirtual 237, 3) := by decide +kernel
theorem dX7_eaten_9 : decode cX7_eaten 9 = .ok (.istore_n 2, 1) := by decide +kernel
theorem dX7_eaten_10 : decode cX7_eaten 10 = .ok (.aload_n 0, 1) := by decide +kernel
theorem dX7_eaten_11 : decode cX7_eaten 11 = .ok (.dup, 1) := by decide +kernel
theorem dX7_eaten_12 : decode cX7_eaten 12 = .ok (.getfield 161, 3) := by decide +kernel
theorem dX7_eaten_15 : decode cX7_eaten 15 = .ok (.iload_n 2, 1) := by decide +kernel
theorem dX7_eaten_16 : decode cX7_eaten 16 = .ok (.iadd, 1) := by decide +kernel
theorem dX7_eaten_17 : decode cX7_eaten 17 = .ok (.putfield 161, 3) := by decide +kernel
theorem dX7_eaten_20 : decode cX7_eaten 20 = .ok (.aload_n 0, 1) := by decide +kernel
theorem dX7_eaten_21 : decode cX7_eaten 21 = .ok (.getfield 35, 3) := by decide +kernel
theorem dX7_eaten_24 : decode cX7_eaten 24 = .ok (.iload_n 1, 1) := by decide +kernel
theorem dX7_eaten_25 : decode cX7_eaten 25 = .ok (.iconst 0, 1) := by decide +kernel
theorem dX7_eaten_26 : decode cX7_eaten 26 = .ok (.iastore, 1) := by decide +kernel
theorem dX7_eaten_27 : decode cX7_eaten 27 = .ok (.iload_n 2, 1) := by decide +kernel
theorem dX7_eaten_28 : decode cX7_eaten 28 = .ok (.ireturn, 1) := by decide +kernel
theorem dX7_eats_0 : decode cX7_eats 0 = .ok (.aload_n 0, 1) := by decide +kernel
theorem dX7_eats_1 : decode cX7_eats 1 = .ok (.iload_n 1, 1) := by decide +kernel
theorem dX7_eats_2 : decode cX7_eats 2 = .ok (.invokevirtual 93, 3) := by decide +kernel
theorem dX7_eats_5 : decode cX7_eats 5 = .ok (.ifCond .ne 9, 3) := by decide +kernel
theorem dX7_eats_8 : decode cX7_eats 8 = .ok (.aload_n 0, 1) := by decide +kernel
theorem dX7_eats_9 : decode cX7_eats 9 = .ok (.iconst (-1), 1) := by decide +kernel
theorem dX7_eats_10 : decode cX7_eats 10 = .ok (.invokevirtual 100, 3) := by decide +kernel
theorem dX7_eats_13 : decode cX7_eats 13 = .ok (.ireturn, 1) := by decide +kernel
theorem dX7_eats_14 : decode cX7_eats 14 = .ok (.aload_n 0, 1) := by decide +kernel
theorem dX7_eats_15 : decode cX7_eats 15 = .ok (.getfield 35, 3) := by decide +kernel
theorem dX7_eats_18 : decode cX7_eats 18 = .ok (.iload_n 1, 1) := by decide +kernel
theorem dX7_eats_19 : decode cX7_eats 19 = .ok (.iaload, 1) := by decide +kernel
theorem dX7_eats_20 : decode cX7_eats 20 = .ok (.ifCond .le 11, 3) := by decide +kernel
theorem dX7_eats_23 : decode cX7_eats 23 = .ok (.aload_n 0, 1) := by decide +kernel
theorem dX7_eats_24 : decode cX7_eats 24 = .ok (.iload_n 1, 1) := by decide +kernel
theorem dX7_eats_25 : decode cX7_eats 25 = .ok (.invokevirtual 272, 3) := by decide +kernel
theorem dX7_eats_28 : decode cX7_eats 28 = .ok (.goto 9, 3) := by decide +kernel
theorem dX7_eats_31 : decode cX7_eats 31 = .ok (.aload_n 0, 1) := by decide +kernel
theorem dX7_eats_32 : decode cX7_eats 32 = .ok (.bipush (-6), 2) := by decide +kernel
theorem dX7_eats_34 : decode cX7_eats 34 = .ok (.invokevirtual 100, 3) := by decide +kernel
theorem dX7_eats_37 : decode cX7_eats 37 = .ok (.ireturn, 1) := by decide +kernel
theorem dX7_draw_0 : decode cX7_draw 0 = .ok (.aload_n 0, 1) := by decide +kernel
theorem dX7_draw_1 : decode cX7_draw 1 = .ok (.aload_n 0, 1) := by decide +kernel
theorem dX7_draw_2 : decode cX7_draw 2 = .ok (.getfield 19, 3) := by decide +kernel
theorem dX7_draw_5 : decode cX7_draw 5 = .ok (.ldc_w 275, 3) := by decide +kernel
theorem dX7_draw_8 : decode cX7_draw 8 = .ok (.imul, 1) := by decide +kernel
theorem dX7_draw_9 : decode cX7_draw 9 = .ok (.sipush 12345, 3) := by decide +kernel
theorem dX7_draw_12 : decode cX7_draw 12 = .ok (.iadd, 1) := by decide +kernel
theorem dX7_draw_13 : decode cX7_draw 13 = .ok (.putfield 19, 3) := by decide +kernel
theorem dX7_draw_16 : decode cX7_draw 16 = .ok (.aload_n 0, 1) := by decide +kernel
theorem dX7_draw_17 : decode cX7_draw 17 = .ok (.getfield 19, 3) := by decide +kernel
theorem dX7_draw_20 : decode cX7_draw 20 = .ok (.bipush 16, 2) := by decide +kernel
theorem dX7_draw_22 : decode cX7_draw 22 = .ok (.iushr, 1) := by decide +kernel
theorem dX7_draw_23 : decode cX7_draw 23 = .ok (.iload_n 1, 1) := by decide +kernel
theorem dX7_draw_24 : decode cX7_draw 24 = .ok (.irem, 1) := by decide +kernel
theorem dX7_draw_25 : decode cX7_draw 25 = .ok (.ireturn, 1) := by decide +kernel
theorem dX7_teas_0 : decode cX7_teas 0 = .ok (.aload_n 0, 1) := by decide +kernel
theorem dX7_teas_1 : decode cX7_teas 1 = .ok (.getfield 90, 3) := by decide +kernel
theorem dX7_teas_4 : decode cX7_teas 4 = .ok (.ifCond .ne 10, 3) := by decide +kernel
theorem dX7_teas_7 : decode cX7_teas 7 = .ok (.aload_n 0, 1) := by decide +kernel
theorem dX7_teas_8 : decode cX7_teas 8 = .ok (.bipush (-5), 2) := by decide +kernel
theorem dX7_teas_10 : decode cX7_teas 10 = .ok (.invokevirtual 100, 3) := by decide +kernel
theorem dX7_teas_13 : decode cX7_teas 13 = .ok (.ireturn, 1) := by decide +kernel
theorem dX7_teas_14 : decode cX7_teas 14 = .ok (.iload_n 1, 1) := by decide +kernel
theorem dX7_teas_15 : decode cX7_teas 15 = .ok (.iconst 1, 1) := by decide +kernel
theorem dX7_teas_16 : decode cX7_teas 16 = .ok (.if_icmp .lt 9, 3) := by decide +kernel
theorem dX7_teas_19 : decode cX7_teas 19 = .ok (.iload_n 1, 1) := by decide +kernel
theorem dX7_teas_20 : decode cX7_teas 20 = .ok (.bipush 20, 2) := by decide +kernel
theorem dX7_teas_22 : decode cX7_teas 22 = .ok (.if_icmp .le 10, 3) := by decide +kernel
theorem dX7_teas_25 : decode cX7_teas 25 = .ok (.aload_n 0, 1) := by decide +kernel
theorem dX7_teas_26 : decode cX7_teas 26 = .ok (.bipush (-6), 2) := by decide +kernel
theorem dX7_teas_28 : decode cX7_teas 28 = .ok (.invokevirtual 100, 3) := by decide +kernel
theorem dX7_teas_31 : decode cX7_teas 31 = .ok (.ireturn, 1) := by decide +kernel
theorem dX7_teas_32 : decode cX7_teas 32 = .ok (.aload_n 0, 1) := by decide +kernel
theorem dX7_teas_33 : decode cX7_teas 33 = .ok (.getfield 161, 3) := by decide +kernel
theorem dX7_teas_36 : decode cX7_teas 36 = .ok (.istore_n 2, 1) := by decide +kernel
theorem dX7_teas_37 : decode cX7_teas 37 = .ok (.iconst 0, 1) := by decide +kernel
theorem dX7_teas_38 : decode cX7_teas 38 = .ok (.istore_n 3, 1) := by decide +kernel
theorem dX7_teas_39 : decode cX7_teas 39 = .ok (.iload_n 3, 1) := by decide +kernel
theorem dX7_teas_40 : decode cX7_teas 40 = .ok (.iload_n 1, 1) := by decide +kernel
theorem dX7_teas_41 : decode cX7_teas 41 = .ok (.if_icmp .ge 82, 3) := by decide +kernel
theorem dX7_teas_44 : decode cX7_teas 44 = .ok (.aload_n 0, 1) := by decide +kernel
theorem dX7_teas_45 : decode cX7_teas 45 = .ok (.aload_n 0, 1) := by decide +kernel
theorem dX7_teas_46 : decode cX7_teas 46 = .ok (.getfield 90, 3) := by decide +kernel
theorem dX7_teas_49 : decode cX7_teas 49 = .ok (.invokevirtual 276, 3) := by decide +kernel
theorem dX7_teas_52 : decode cX7_teas 52 = .ok (.istore 4, 2) := by decide +kernel
theorem dX7_teas_54 : decode cX7_teas 54 = .ok (.aload_n 0, 1) := by decide +kernel
theorem dX7_teas_55 : decode cX7_teas 55 = .ok (.getfield 35, 3) := by decide +kernel
theorem dX7_teas_58 : decode cX7_teas 58 = .ok (.iload 4, 2) := by decide +kernel
theorem dX7_teas_60 : decode cX7_teas 60 = .ok (.iaload, 1) := by decide +kernel
theorem dX7_teas_61 : decode cX7_teas 61 = .ok (.ifCond .ne 6, 3) := by decide +kernel
theorem dX7_teas_64 : decode cX7_teas 64 = .ok (.goto 53, 3) := by decide +kernel
theorem dX7_teas_67 : decode cX7_teas 67 = .ok (.aload_n 0, 1) := by decide +kernel
theorem dX7_teas_68 : decode cX7_teas 68 = .ok (.aload_n 0, 1) := by decide +kernel
theorem dX7_teas_69 : decode cX7_teas 69 = .ok (.getfield 35, 3) := by decide +kernel
theorem dX7_teas_72 : decode cX7_teas 72 = .ok (.iload 4, 2) := by decide +kernel
theorem dX7_teas_74 : decode cX7_teas 74 = .ok (.iaload, 1) := by decide +kernel
theorem dX7_teas_75 : decode cX7_teas 75 = .ok (.iconst 1, 1) := by decide +kernel
theorem dX7_teas_76 : decode cX7_teas 76 = .ok (.iadd, 1) := by decide +kernel
theorem dX7_teas_77 : decode cX7_teas 77 = .ok (.invokevirtual 276, 3) := by decide +kernel
theorem dX7_teas_80 : decode cX7_teas 80 = .ok (.istore 5, 2) := by decide +kernel
theorem dX7_teas_82 : decode cX7_teas 82 = .ok (.aload_n 0, 1) := by decide +kernel
theorem dX7_teas_83 : decode cX7_teas 83 = .ok (.iload 4, 2) := by decide +kernel
theorem dX7_teas_85 : decode cX7_teas 85 = .ok (.iload 5, 2) := by decide +kernel
theorem dX7_teas_87 : decode cX7_teas 87 = .ok (.aload_n 0, 1) := by decide +kernel
theorem dX7_teas_88 : decode cX7_teas 88 = .ok (.bipush 10, 2) := by decide +kernel
theorem dX7_teas_90 : decode cX7_teas 90 = .ok (.invokevirtual 276, 3) := by decide +kernel
theorem dX7_teas_93 : decode cX7_teas 93 = .ok (.invokevirtual 151, 3) := by decide +kernel
theorem dX7_teas_96 : decode cX7_teas 96 = .ok (.pop, 1) := by decide +kernel
theorem dX7_teas_97 : decode cX7_teas 97 = .ok (.aload_n 0, 1) := by decide +kernel
theorem dX7_teas_98 : decode cX7_teas 98 = .ok (.iload 4, 2) := by decide +kernel
theorem dX7_teas_100 : decode cX7_teas 100 = .ok (.aload_n 0, 1) := by decide +kernel
theorem dX7_teas_101 : decode cX7_teas 101 = .ok (.bipush 6, 2) := by decide +kernel
theorem dX7_teas_103 : decode cX7_teas 103 = .ok (.invokevirtual 276, 3) := by decide +kernel
theorem dX7_teas_106 : decode cX7_teas 106 = .ok (.invokevirtual 266, 3) := by decide +kernel
theorem dX7_teas_109 : decode cX7_teas 109 = .ok (.pop, 1) := by decide +kernel
theorem dX7_teas_110 : decode cX7_teas 110 = .ok (.aload_n 0, 1) := by decide +kernel
theorem dX7_teas_111 : decode cX7_teas 111 = .ok (.iload 4, 2) := by decide +kernel
theorem dX7_teas_113 : decode cX7_teas 113 = .ok (.invokevirtual 272, 3) := by decide +kernel
theorem dX7_teas_116 : decode cX7_teas 116 = .ok (.pop, 1) := by decide +kernel
theorem dX7_teas_117 : decode cX7_teas 117 = .ok (.iinc 3 1, 3) := by decide +kernel
theorem dX7_teas_120 : decode cX7_teas 120 = .ok (.goto (-81), 3) := by decide +kernel
theorem dX7_teas_123 : decode cX7_teas 123 = .ok (.aload_n 0, 1) := by decide +kernel
theorem dX7_teas_124 : decode cX7_teas 124 = .ok (.getfield 161, 3) := by decide +kernel
theorem dX7_teas_127 : decode cX7_teas 127 = .ok (.iload_n 2, 1) := by decide +kernel
theorem dX7_teas_128 : decode cX7_teas 128 = .ok (.isub, 1) := by decide +kernel
theorem dX7_teas_129 : decode cX7_teas 129 = .ok (.ireturn, 1) := by decide +kernel
theorem dX7_seed_0 : decode cX7_seed 0 = .ok (.aload_n 0, 1) := by decide +kernel
theorem dX7_seed_1 : decode cX7_seed 1 = .ok (.getfield 19, 3) := by decide +kernel
theorem dX7_seed_4 : decode cX7_seed 4 = .ok (.istore_n 2, 1) := by decide +kernel
theorem dX7_seed_5 : decode cX7_seed 5 = .ok (.aload_n 0, 1) := by decide +kernel
theorem dX7_seed_6 : decode cX7_seed 6 = .ok (.iload_n 1, 1) := by decide +kernel
theorem dX7_seed_7 : decode cX7_seed 7 = .ok (.putfield 19, 3) := by decide +kernel
theorem dX7_seed_10 : decode cX7_seed 10 = .ok (.iload_n 2, 1) := by decide +kernel
theorem dX7_seed_11 : decode cX7_seed 11 = .ok (.ireturn, 1) := by decide +kernel
theorem dX7_body_0 : decode cX7_body 0 = .ok (.aload_n 0, 1) := by decide +kernel
theorem dX7_body_1 : decode cX7_body 1 = .ok (.getfield 279, 3) := by decide +kernel
theorem dX7_body_4 : decode cX7_body 4 = .ok (.bipush 20, 2) := by decide +kernel
theorem dX7_body_6 : decode cX7_body 6 = .ok (.if_icmp .ge 13, 3) := by decide +kernel
theorem dX7_body_9 : decode cX7_body 9 = .ok (.aload_n 0, 1) := by decide +kernel
theorem dX7_body_10 : decode cX7_body 10 = .ok (.getfield 87, 3) := by decide +kernel
theorem dX7_body_13 : decode cX7_body 13 = .ok (.aload_n 0, 1) := by decide +kernel
theorem dX7_body_14 : decode cX7_body 14 = .ok (.getfield 279, 3) := by decide +kernel
theorem dX7_body_17 : decode cX7_body 17 = .ok (.iload_n 1, 1) := by decide +kernel
theorem dX7_body_18 : decode cX7_body 18 = .ok (.iastore, 1) := by decide +kernel
theorem dX7_body_19 : decode cX7_body 19 = .ok (.aload_n 0, 1) := by decide +kernel
theorem dX7_body_20 : decode cX7_body 20 = .ok (.dup, 1) := by decide +kernel
theorem dX7_body_21 : decode cX7_body 21 = .ok (.getfield 279, 3) := by decide +kernel
theorem dX7_body_24 : decode cX7_body 24 = .ok (.iconst 1, 1) := by decide +kernel
theorem dX7_body_25 : decode cX7_body 25 = .ok (.iadd, 1) := by decide +kernel
theorem dX7_body_26 : decode cX7_body 26 = .ok (.putfield 279, 3) := by decide +kernel
theorem dX7_body_29 : decode cX7_body 29 = .ok (.return_, 1) := by decide +kernel
theorem dX7_soaking_0 : decode cX7_soaking 0 = .ok (.aload_n 0, 1) := by decide +kernel
theorem dX7_soaking_1 : decode cX7_soaking 1 = .ok (.getfield 29, 3) := by decide +kernel
theorem dX7_soaking_4 : decode cX7_soaking 4 = .ok (.iload_n 1, 1) := by decide +kernel
theorem dX7_soaking_5 : decode cX7_soaking 5 = .ok (.iaload, 1) := by decide +kernel
theorem dX7_soaking_6 : decode cX7_soaking 6 = .ok (.istore_n 3, 1) := by decide +kernel
theorem dX7_soaking_7 : decode cX7_soaking 7 = .ok (.iload_n 3, 1) := by decide +kernel
theorem dX7_soaking_8 : decode cX7_soaking 8 = .ok (.bipush 6, 2) := by decide +kernel
theorem dX7_soaking_10 : decode cX7_soaking 10 = .ok (.if_icmp .ne 9, 3) := by decide +kernel
theorem dX7_soaking_13 : decode cX7_soaking 13 = .ok (.aload_n 0, 1) := by decide +kernel
theorem dX7_soaking_14 : decode cX7_soaking 14 = .ok (.bipush 70, 2) := by decide +kernel
theorem dX7_soaking_16 : decode cX7_soaking 16 = .ok (.invokevirtual 282, 3) := by decide +kernel
theorem dX7_soaking_19 : decode cX7_soaking 19 = .ok (.iload_n 3, 1) := by decide +kernel
theorem dX7_soaking_20 : decode cX7_soaking 20 = .ok (.iconst 4, 1) := by decide +kernel
theorem dX7_soaking_21 : decode cX7_soaking 21 = .ok (.if_icmp .eq 9, 3) := by decide +kernel
theorem dX7_soaking_24 : decode cX7_soaking 24 = .ok (.iload_n 3, 1) := by decide +kernel
theorem dX7_soaking_25 : decode cX7_soaking 25 = .ok (.bipush 6, 2) := by decide +kernel
theorem dX7_soaking_27 : decode cX7_soaking 27 = .ok (.if_icmp .ne 9, 3) := by decide +kernel
theorem dX7_soaking_30 : decode cX7_soaking 30 = .ok (.aload_n 0, 1) := by decide +kernel
theorem dX7_soaking_31 : decode cX7_soaking 31 = .ok (.bipush 51, 2) := by decide +kernel
theorem dX7_soaking_33 : decode cX7_soaking 33 = .ok (.invokevirtual 282, 3) := by decide +kernel
theorem dX7_soaking_36 : decode cX7_soaking 36 = .ok (.iload_n 3, 1) := by decide +kernel
theorem dX7_soaking_37 : decode cX7_soaking 37 = .ok (.iconst 1, 1) := by decide +kernel
theorem dX7_soaking_38 : decode cX7_soaking 38 = .ok (.if_icmp .eq 8, 3) := by decide +kernel
theorem dX7_soaking_41 : decode cX7_soaking 41 = .ok (.iload_n 3, 1) := by decide +kernel
theorem dX7_soaking_42 : decode cX7_soaking 42 = .ok (.iconst 3, 1) := by decide +kernel
theorem dX7_soaking_43 : decode cX7_soaking 43 = .ok (.if_icmp .ne 9, 3) := by decide +kernel
theorem dX7_soaking_46 : decode cX7_soaking 46 = .ok (.aload_n 0, 1) := by decide +kernel
theorem dX7_soaking_47 : decode cX7_soaking 47 = .ok (.bipush 20, 2) := by decide +kernel
theorem dX7_soaking_49 : decode cX7_soaking 49 = .ok (.invokevirtual 282, 3) := by decide +kernel
theorem dX7_soaking_52 : decode cX7_soaking 52 = .ok (.aload_n 0, 1) := by decide +kernel
theorem dX7_soaking_53 : decode cX7_soaking 53 = .ok (.bipush 10, 2) := by decide +kernel
theorem dX7_soaking_55 : decode cX7_soaking 55 = .ok (.invokevirtual 282, 3) := by decide +kernel
theorem dX7_soaking_58 : decode cX7_soaking 58 = .ok (.iload_n 2, 1) := by decide +kernel
theorem dX7_soaking_59 : decode cX7_soaking 59 = .ok (.iload_n 1, 1) := by decide +kernel
theorem dX7_soaking_60 : decode cX7_soaking 60 = .ok (.iadd, 1) := by decide +kernel
theorem dX7_soaking_61 : decode cX7_soaking 61 = .ok (.istore 4, 2) := by decide +kernel
theorem dX7_soaking_63 : decode cX7_soaking 63 = .ok (.iload_n 3, 1) := by decide +kernel
theorem dX7_soaking_64 : decode cX7_soaking 64 = .ok (.iconst 1, 1) := by decide +kernel
theorem dX7_soaking_65 : decode cX7_soaking 65 = .ok (.if_icmp .eq 8, 3) := by decide +kernel
theorem dX7_soaking_68 : decode cX7_soaking 68 = .ok (.iload_n 3, 1) := by decide +kernel
theorem dX7_soaking_69 : decode cX7_soaking 69 = .ok (.iconst 3, 1) := by decide +kernel
theorem dX7_soaking_70 : decode cX7_soaking 70 = .ok (.if_icmp .ne 14, 3) := by decide +kernel
theorem dX7_soaking_73 : decode cX7_soaking 73 = .ok (.iload 4, 2) := by decide +kernel
theorem dX7_soaking_75 : decode cX7_soaking 75 = .ok (.aload_n 0, 1) := by decide +kernel
theorem dX7_soaking_76 : decode cX7_soaking 76 = .ok (.getfield 32, 3) := by decide +kernel
theorem dX7_soaking_79 : decode cX7_soaking 79 = .ok (.iload_n 1, 1) := by decide +kernel
theorem dX7_soaking_80 : decode cX7_soaking 80 = .ok (.iaload, 1) := by decide +kernel
theorem dX7_soaking_81 : decode cX7_soaking 81 = .ok (.iadd, 1) := by decide +kernel
theorem dX7_soaking_82 : decode cX7_soaking 82 = .ok (.istore 4, 2) := by decide +kernel
theorem dX7_soaking_84 : decode cX7_soaking 84 = .ok (.iload_n 3, 1) := by decide +kernel
theorem dX7_soaking_85 : decode cX7_soaking 85 = .ok (.iconst 4, 1) := by decide +kernel
theorem dX7_soaking_86 : decode cX7_soaking 86 = .ok (.if_icmp .eq 9, 3) := by decide +kernel
theorem dX7_soaking_89 : decode cX7_soaking 89 = .ok (.iload_n 3, 1) := by decide +kernel
theorem dX7_soaking_90 : decode cX7_soaking 90 = .ok (.bipush 6, 2) := by decide +kernel
theorem dX7_soaking_92 : decode cX7_soaking 92 = .ok (.if_icmp .ne 9, 3) := by decide +kernel
theorem dX7_soaking_95 : decode cX7_soaking 95 = .ok (.iload 4, 2) := by decide +kernel
theorem dX7_soaking_97 : decode cX7_soaking 97 = .ok (.iload_n 1, 1) := by decide +kernel
theorem dX7_soaking_98 : decode cX7_soaking 98 = .ok (.isub, 1) := by decide +kernel
theorem dX7_soaking_99 : decode cX7_soaking 99 = .ok (.istore 4, 2) := by decide +kernel
theorem dX7_soaking_101 : decode cX7_soaking 101 = .ok (.iload_n 3, 1) := by decide +kernel
theorem dX7_soaking_102 : decode cX7_soaking 102 = .ok (.bipush 6, 2) := by decide +kernel
theorem dX7_soaking_104 : decode cX7_soaking 104 = .ok (.if_icmp .ne 10, 3) := by decide +kernel
theorem dX7_soaking_107 : decode cX7_soaking 107 = .ok (.iload 4, 2) := by decide +kernel
theorem dX7_soaking_109 : decode cX7_soaking 109 = .ok (.iconst 2, 1) := by decide +kernel
theorem dX7_soaking_110 : decode cX7_soaking 110 = .ok (.imul, 1) := by decide +kernel
theorem dX7_soaking_111 : decode cX7_soaking 111 = .ok (.goto 5, 3) := by decide +kernel
theorem dX7_soaking_114 : decode cX7_soaking 114 = .ok (.iload 4, 2) := by decide +kernel
theorem dX7_soaking_116 : decode cX7_soaking 116 = .ok (.ireturn, 1) := by decide +kernel
theorem dX7_creeping_0 : decode cX7_creeping 0 = .ok (.aload_n 0, 1) := by decide +kernel
theorem dX7_creeping_1 : decode cX7_creeping 1 = .ok (.getfield 29, 3) := by decide +kernel
theorem dX7_creeping_4 : decode cX7_creeping 4 = .ok (.iload_n 1, 1) := by decide +kernel
theorem dX7_creeping_5 : decode cX7_creeping 5 = .ok (.iaload, 1) := by decide +kernel
theorem dX7_creeping_6 : decode cX7_creeping 6 = .ok (.istore_n 3, 1) := by decide +kernel
theorem dX7_creeping_7 : decode cX7_creeping 7 = .ok (.iload_n 2, 1) := by decide +kernel
theorem dX7_creeping_8 : decode cX7_creeping 8 = .ok (.istore 4, 2) := by decide +kernel
theorem dX7_creeping_10 : decode cX7_creeping 10 = .ok (.iload_n 3, 1) := by decide +kernel
theorem dX7_creeping_11 : decode cX7_creeping 11 = .ok (.bipush 6, 2) := by decide +kernel
theorem dX7_creeping_13 : decode cX7_creeping 13 = .ok (.if_icmp .ne 19, 3) := by decide +kernel
theorem dX7_creeping_16 : decode cX7_creeping 16 = .ok (.aload_n 0, 1) := by decide +kernel
theorem dX7_creeping_17 : decode cX7_creeping 17 = .ok (.bipush 71, 2) := by decide +kernel
theorem dX7_creeping_19 : decode cX7_creeping 19 = .ok (.invokevirtual 282, 3) := by decide +kernel
theorem dX7_creeping_22 : decode cX7_creeping 22 = .ok (.iload_n 2, 1) := by decide +kernel
theorem dX7_creeping_23 : decode cX7_creeping 23 = .ok (.aload_n 0, 1) := by decide +kernel
theorem dX7_creeping_24 : decode cX7_creeping 24 = .ok (.getfield 32, 3) := by decide +kernel
theorem dX7_creeping_27 : decode cX7_creeping 27 = .ok (.iload_n 1, 1) := by decide +kernel
theorem dX7_creeping_28 : decode cX7_creeping 28 = .ok (.iaload, 1) := by decide +kernel
theorem dX7_creeping_29 : decode cX7_creeping 29 = .ok (.isub, 1) := by decide +kernel
theorem dX7_creeping_30 : decode cX7_creeping 30 = .ok (.istore 4, 2) := by decide +kernel
theorem dX7_creeping_32 : decode cX7_creeping 32 = .ok (.iload_n 3, 1) := by decide +kernel
theorem dX7_creeping_33 : decode cX7_creeping 33 = .ok (.iconst 3, 1) := by decide +kernel
theorem dX7_creeping_34 : decode cX7_creeping 34 = .ok (.if_icmp .ne 14, 3) := by decide +kernel
theorem dX7_creeping_37 : decode cX7_creeping 37 = .ok (.aload_n 0, 1) := by decide +kernel
theorem dX7_creeping_38 : decode cX7_creeping 38 = .ok (.bipush 40, 2) := by decide +kernel
theorem dX7_creeping_40 : decode cX7_creeping 40 = .ok (.invokevirtual 282, 3) := by decide +kernel
theorem dX7_creeping_43 : decode cX7_creeping 43 = .ok (.iload_n 2, 1) := by decide +kernel
theorem dX7_creeping_44 : decode cX7_creeping 44 = .ok (.iconst 1, 1) := by decide +kernel
theorem dX7_creeping_45 : decode cX7_creeping 45 = .ok (.iadd, 1) := by decide +kernel
theorem dX7_creeping_46 : decode cX7_creeping 46 = .ok (.istore 4, 2) := by decide +kernel
theorem dX7_creeping_48 : decode cX7_creeping 48 = .ok (.iload_n 3, 1) := by decide +kernel
theorem dX7_creeping_49 : decode cX7_creeping 49 = .ok (.iconst 2, 1) := by decide +kernel
theorem dX7_creeping_50 : decode cX7_creeping 50 = .ok (.if_icmp .eq 8, 3) := by decide +kernel
theorem dX7_creeping_53 : decode cX7_creeping 53 = .ok (.iload_n 3, 1) := by decide +kernel
theorem dX7_creeping_54 : decode cX7_creeping 54 = .ok (.iconst 5, 1) := by decide +kernel
theorem dX7_creeping_55 : decode cX7_creeping 55 = .ok (.if_icmp .ne 7, 3) := by decide +kernel
theorem dX7_creeping_58 : decode cX7_creeping 58 = .ok (.iconst 1, 1) := by decide +kernel
theorem dX7_creeping_59 : decode cX7_creeping 59 = .ok (.goto 4, 3) := by decide +kernel
theorem dX7_creeping_62 : decode cX7_creeping 62 = .ok (.iconst 0, 1) := by decide +kernel
theorem dX7_creeping_63 : decode cX7_creeping 63 = .ok (.istore 5, 2) := by decide +kernel
theorem dX7_creeping_65 : decode cX7_creeping 65 = .ok (.iload 5, 2) := by decide +kernel
theorem dX7_creeping_67 : decode cX7_creeping 67 = .ok (.ifCond .eq 9, 3) := by decide +kernel
theorem dX7_creeping_70 : decode cX7_creeping 70 = .ok (.aload_n 0, 1) := by decide +kernel
theorem dX7_creeping_71 : decode cX7_creeping 71 = .ok (.bipush 30, 2) := by decide +kernel
theorem dX7_creeping_73 : decode cX7_creeping 73 = .ok (.invokevirtual 282, 3) := by decide +kernel
theorem dX7_creeping_76 : decode cX7_creeping 76 = .ok (.aload_n 0, 1) := by decide +kernel
theorem dX7_creeping_77 : decode cX7_creeping 77 = .ok (.bipush 11, 2) := by decide +kernel
theorem dX7_creeping_79 : decode cX7_creeping 79 = .ok (.invokevirtual 282, 3) := by decide +kernel
theorem dX7_creeping_82 : decode cX7_creeping 82 = .ok (.aload_n 0, 1) := by decide +kernel
theorem dX7_creeping_83 : decode cX7_creeping 83 = .ok (.iload_n 1, 1) := by decide +kernel
theorem dX7_creeping_84 : decode cX7_creeping 84 = .ok (.iload 4, 2) := by decide +kernel
theorem dX7_creeping_86 : decode cX7_creeping 86 = .ok (.invokevirtual 285, 3) := by decide +kernel
theorem dX7_creeping_89 : decode cX7_creeping 89 = .ok (.iconst 2, 1) := by decide +kernel
theorem dX7_creeping_90 : decode cX7_creeping 90 = .ok (.imul, 1) := by decide +kernel
theorem dX7_creeping_91 : decode cX7_creeping 91 = .ok (.istore 6, 2) := by decide +kernel
theorem dX7_creeping_93 : decode cX7_creeping 93 = .ok (.iload 5, 2) := by decide +kernel
theorem dX7_creeping_95 : decode cX7_creeping 95 = .ok (.ifCond .eq 10, 3) := by decide +kernel
theorem dX7_creeping_98 : decode cX7_creeping 98 = .ok (.iload 6, 2) := by decide +kernel
theorem dX7_creeping_100 : decode cX7_creeping 100 = .ok (.iconst 3, 1) := by decide +kernel
theorem dX7_creeping_101 : decode cX7_creeping 101 = .ok (.imul, 1) := by decide +kernel
theorem dX7_creeping_102 : decode cX7_creeping 102 = .ok (.goto 5, 3) := by decide +kernel
theorem dX7_creeping_105 : decode cX7_creeping 105 = .ok (.iload 6, 2) := by decide +kernel
theorem dX7_creeping_107 : decode cX7_creeping 107 = .ok (.ireturn, 1) := by decide +kernel
theorem dX7_breaking_0 : decode cX7_breaking 0 = .ok (.aload_n 0, 1) := by decide +kernel
theorem dX7_breaking_1 : decode cX7_breaking 1 = .ok (.getfield 29, 3) := by decide +kernel
theorem dX7_breaking_4 : decode cX7_breaking 4 = .ok (.iload_n 1, 1) := by decide +kernel
theorem dX7_breaking_5 : decode cX7_breaking 5 = .ok (.iaload, 1) := by decide +kernel
theorem dX7_breaking_6 : decode cX7_breaking 6 = .ok (.istore_n 3, 1) := by decide +kernel
theorem dX7_breaking_7 : decode cX7_breaking 7 = .ok (.iload_n 3, 1) := by decide +kernel
theorem dX7_breaking_8 : decode cX7_breaking 8 = .ok (.iconst 4, 1) := by decide +kernel
theorem dX7_breaking_9 : decode cX7_breaking 9 = .ok (.if_icmp .eq 9, 3) := by decide +kernel
theorem dX7_breaking_12 : decode cX7_breaking 12 = .ok (.iload_n 3, 1) := by decide +kernel
theorem dX7_breaking_13 : decode cX7_breaking 13 = .ok (.bipush 6, 2) := by decide +kernel
theorem dX7_breaking_15 : decode cX7_breaking 15 = .ok (.if_icmp .ne 9, 3) := by decide +kernel
theorem dX7_breaking_18 : decode cX7_breaking 18 = .ok (.aload_n 0, 1) := by decide +kernel
theorem dX7_breaking_19 : decode cX7_breaking 19 = .ok (.bipush 50, 2) := by decide +kernel
theorem dX7_breaking_21 : decode cX7_breaking 21 = .ok (.invokevirtual 282, 3) := by decide +kernel
theorem dX7_breaking_24 : decode cX7_breaking 24 = .ok (.iload_n 3, 1) := by decide +kernel
theorem dX7_breaking_25 : decode cX7_breaking 25 = .ok (.iconst 5, 1) := by decide +kernel
theorem dX7_breaking_26 : decode cX7_breaking 26 = .ok (.if_icmp .ne 9, 3) := by decide +kernel
theorem dX7_breaking_29 : decode cX7_breaking 29 = .ok (.aload_n 0, 1) := by decide +kernel
theorem dX7_breaking_30 : decode cX7_breaking 30 = .ok (.bipush 60, 2) := by decide +kernel
theorem dX7_breaking_32 : decode cX7_breaking 32 = .ok (.invokevirtual 282, 3) := by decide +kernel
theorem dX7_breaking_35 : decode cX7_breaking 35 = .ok (.aload_n 0, 1) := by decide +kernel
theorem dX7_breaking_36 : decode cX7_breaking 36 = .ok (.bipush 12, 2) := by decide +kernel
theorem dX7_breaking_38 : decode cX7_breaking 38 = .ok (.invokevirtual 282, 3) := by decide +kernel
theorem dX7_breaking_41 : decode cX7_breaking 41 = .ok (.aload_n 0, 1) := by decide +kernel
theorem dX7_breaking_42 : decode cX7_breaking 42 = .ok (.iload_n 1, 1) := by decide +kernel
theorem dX7_breaking_43 : decode cX7_breaking 43 = .ok (.iload_n 2, 1) := by decide +kernel
theorem dX7_breaking_44 : decode cX7_breaking 44 = .ok (.invokevirtual 288, 3) := by decide +kernel
theorem dX7_breaking_47 : decode cX7_breaking 47 = .ok (.istore 4, 2) := by decide +kernel
theorem dX7_breaking_49 : decode cX7_breaking 49 = .ok (.iload 4, 2) := by decide +kernel
theorem dX7_breaking_51 : decode cX7_breaking 51 = .ok (.aload_n 0, 1) := by decide +kernel
theorem dX7_breaking_52 : decode cX7_breaking 52 = .ok (.iload_n 1, 1) := by decide +kernel
theorem dX7_breaking_53 : decode cX7_breaking 53 = .ok (.iload_n 2, 1) := by decide +kernel
theorem dX7_breaking_54 : decode cX7_breaking 54 = .ok (.aload_n 0, 1) := by decide +kernel
theorem dX7_breaking_55 : decode cX7_breaking 55 = .ok (.getfield 32, 3) := by decide +kernel
theorem dX7_breaking_58 : decode cX7_breaking 58 = .ok (.iload_n 1, 1) := by decide +kernel
theorem dX7_breaking_59 : decode cX7_breaking 59 = .ok (.iaload, 1) := by decide +kernel
theorem dX7_breaking_60 : decode cX7_breaking 60 = .ok (.isub, 1) := by decide +kernel
theorem dX7_breaking_61 : decode cX7_breaking 61 = .ok (.invokevirtual 285, 3) := by decide +kernel
theorem dX7_breaking_64 : decode cX7_breaking 64 = .ok (.ixor, 1) := by decide +kernel
theorem dX7_breaking_65 : decode cX7_breaking 65 = .ok (.istore 4, 2) := by decide +kernel
theorem dX7_breaking_67 : decode cX7_breaking 67 = .ok (.iload_n 3, 1) := by decide +kernel
theorem dX7_breaking_68 : decode cX7_breaking 68 = .ok (.iconst 4, 1) := by decide +kernel
theorem dX7_breaking_69 : decode cX7_breaking 69 = .ok (.if_icmp .eq 9, 3) := by decide +kernel
theorem dX7_breaking_72 : decode cX7_breaking 72 = .ok (.iload_n 3, 1) := by decide +kernel
theorem dX7_breaking_73 : decode cX7_breaking 73 = .ok (.bipush 6, 2) := by decide +kernel
theorem dX7_breaking_75 : decode cX7_breaking 75 = .ok (.if_icmp .ne 9, 3) := by decide +kernel
theorem dX7_breaking_78 : decode cX7_breaking 78 = .ok (.iload 4, 2) := by decide +kernel
theorem dX7_breaking_80 : decode cX7_breaking 80 = .ok (.ineg, 1) := by decide +kernel
theorem dX7_breaking_81 : decode cX7_breaking 81 = .ok (.goto 17, 3) := by decide +kernel
theorem dX7_breaking_84 : decode cX7_breaking 84 = .ok (.iload_n 3, 1) := by decide +kernel
theorem dX7_breaking_85 : decode cX7_breaking 85 = .ok (.iconst 5, 1) := by decide +kernel
theorem dX7_breaking_86 : decode cX7_breaking 86 = .ok (.if_icmp .ne 10, 3) := by decide +kernel
theorem dX7_breaking_89 : decode cX7_breaking 89 = .ok (.iload 4, 2) := by decide +kernel
theorem dX7_breaking_91 : decode cX7_breaking 91 = .ok (.iconst 5, 1) := by decide +kernel
theorem dX7_breaking_92 : decode cX7_breaking 92 = .ok (.ixor, 1) := by decide +kernel
theorem dX7_breaking_93 : decode cX7_breaking 93 = .ok (.goto 5, 3) := by decide +kernel
theorem dX7_breaking_96 : decode cX7_breaking 96 = .ok (.iload 4, 2) := by decide +kernel
theorem dX7_breaking_98 : decode cX7_breaking 98 = .ok (.ireturn, 1) := by decide +kernel
theorem dX7_act_0 : decode cX7_act 0 = .ok (.aload_n 0, 1) := by decide +kernel
theorem dX7_act_1 : decode cX7_act 1 = .ok (.iconst 0, 1) := by decide +kernel
theorem dX7_act_2 : decode cX7_act 2 = .ok (.putfield 279, 3) := by decide +kernel
theorem dX7_act_5 : decode cX7_act 5 = .ok (.aload_n 0, 1) := by decide +kernel
theorem dX7_act_6 : decode cX7_act 6 = .ok (.iload_n 1, 1) := by decide +kernel
theorem dX7_act_7 : decode cX7_act 7 = .ok (.invokevirtual 93, 3) := by decide +kernel
theorem dX7_act_10 : decode cX7_act 10 = .ok (.ifCond .eq 12, 3) := by decide +kernel
theorem dX7_act_13 : decode cX7_act 13 = .ok (.iload_n 2, 1) := by decide +kernel
theorem dX7_act_14 : decode cX7_act 14 = .ok (.ifCond .lt 8, 3) := by decide +kernel
theorem dX7_act_17 : decode cX7_act 17 = .ok (.iload_n 2, 1) := by decide +kernel
theorem dX7_act_18 : decode cX7_act 18 = .ok (.iconst 2, 1) := by decide +kernel
theorem dX7_act_19 : decode cX7_act 19 = .ok (.if_icmp .le 5, 3) := by decide +kernel
theorem dX7_act_22 : decode cX7_act 22 = .ok (.iconst 0, 1) := by decide +kernel
theorem dX7_act_23 : decode cX7_act 23 = .ok (.ireturn, 1) := by decide +kernel
theorem dX7_act_24 : decode cX7_act 24 = .ok (.iload_n 2, 1) := by decide +kernel
theorem dX7_act_25 : decode cX7_act 25 = .ok (.ifCond .ne 12, 3) := by decide +kernel
theorem dX7_act_28 : decode cX7_act 28 = .ok (.aload_n 0, 1) := by decide +kernel
theorem dX7_act_29 : decode cX7_act 29 = .ok (.iload_n 1, 1) := by decide +kernel
theorem dX7_act_30 : decode cX7_act 30 = .ok (.iload_n 3, 1) := by decide +kernel
theorem dX7_act_31 : decode cX7_act 31 = .ok (.invokevirtual 285, 3) := by decide +kernel
theorem dX7_act_34 : decode cX7_act 34 = .ok (.goto 23, 3) := by decide +kernel
theorem dX7_act_37 : decode cX7_act 37 = .ok (.iload_n 2, 1) := by decide +kernel
theorem dX7_act_38 : decode cX7_act 38 = .ok (.iconst 1, 1) := by decide +kernel
theorem dX7_act_39 : decode cX7_act 39 = .ok (.if_icmp .ne 12, 3) := by decide +kernel
theorem dX7_act_42 : decode cX7_act 42 = .ok (.aload_n 0, 1) := by decide +kernel
theorem dX7_act_43 : decode cX7_act 43 = .ok (.iload_n 1, 1) := by decide +kernel
theorem dX7_act_44 : decode cX7_act 44 = .ok (.iload_n 3, 1) := by decide +kernel
theorem dX7_act_45 : decode cX7_act 45 = .ok (.invokevirtual 288, 3) := by decide +kernel
theorem dX7_act_48 : decode cX7_act 48 = .ok (.goto 9, 3) := by decide +kernel
theorem dX7_act_51 : decode cX7_act 51 = .ok (.aload_n 0, 1) := by decide +kernel
theorem dX7_act_52 : decode cX7_act 52 = .ok (.iload_n 1, 1) := by decide +kernel
theorem dX7_act_53 : decode cX7_act 53 = .ok (.iload_n 3, 1) := by decide +kernel
theorem dX7_act_54 : decode cX7_act 54 = .ok (.invokevirtual 291, 3) := by decide +kernel
theorem dX7_act_57 : decode cX7_act 57 = .ok (.ireturn, 1) := by decide +kernel
theorem dX7_trace_0 : decode cX7_trace 0 = .ok (.iload_n 1, 1) := by decide +kernel
theorem dX7_trace_1 : decode cX7_trace 1 = .ok (.ifCond .lt 26, 3) := by decide +kernel
theorem dX7_trace_4 : decode cX7_trace 4 = .ok (.iload_n 1, 1) := by decide +kernel
theorem dX7_trace_5 : decode cX7_trace 5 = .ok (.bipush 20, 2) := by decide +kernel
theorem dX7_trace_7 : decode cX7_trace 7 = .ok (.if_icmp .ge 20, 3) := by decide +kernel
theorem dX7_trace_10 : decode cX7_trace 10 = .ok (.iload_n 1, 1) := by decide +kernel
theorem dX7_trace_11 : decode cX7_trace 11 = .ok (.aload_n 0, 1) := by decide +kernel
theorem dX7_trace_12 : decode cX7_trace 12 = .ok (.getfield 279, 3) := by decide +kernel
theorem dX7_trace_15 : decode cX7_trace 15 = .ok (.if_icmp .ge 12, 3) := by decide +kernel
theorem dX7_trace_18 : decode cX7_trace 18 = .ok (.aload_n 0, 1) := by decide +kernel
theorem dX7_trace_19 : decode cX7_trace 19 = .ok (.getfield 87, 3) := by decide +kernel
theorem dX7_trace_22 : decode cX7_trace 22 = .ok (.iload_n 1, 1) := by decide +kernel
theorem dX7_trace_23 : decode cX7_trace 23 = .ok (.iaload, 1) := by decide +kernel
theorem dX7_trace_24 : decode cX7_trace 24 = .ok (.goto 4, 3) := by decide +kernel
theorem dX7_trace_27 : decode cX7_trace 27 = .ok (.iconst (-1), 1) := by decide +kernel
theorem dX7_trace_28 : decode cX7_trace 28 = .ok (.ireturn, 1) := by decide +kernel
theorem dX7_image_0 : decode cX7_image 0 = .ok (.aload_n 0, 1) := by decide +kernel
theorem dX7_image_1 : decode cX7_image 1 = .ok (.iconst 1, 1) := by decide +kernel
theorem dX7_image_2 : decode cX7_image 2 = .ok (.putfield 294, 3) := by decide +kernel
theorem dX7_image_5 : decode cX7_image 5 = .ok (.aload_n 0, 1) := by decide +kernel
theorem dX7_image_6 : decode cX7_image 6 = .ok (.aload_n 0, 1) := by decide +kernel
theorem dX7_image_7 : decode cX7_image 7 = .ok (.getfield 72, 3) := by decide +kernel
theorem dX7_image_10 : decode cX7_image 10 = .ok (.iconst 0, 1) := by decide +kernel
theorem dX7_image_11 : decode cX7_image 11 = .ok (.invokevirtual 170, 3) := by decide +kernel
theorem dX7_image_14 : decode cX7_image 14 = .ok (.aload_n 0, 1) := by decide +kernel
theorem dX7_image_15 : decode cX7_image 15 = .ok (.getfield 90, 3) := by decide +kernel
theorem dX7_image_18 : decode cX7_image 18 = .ok (.ireturn, 1) := by decide +kernel
theorem dX7_restore_0 : decode cX7_restore 0 = .ok (.aload_n 0, 1) := by decide +kernel
theorem dX7_restore_1 : decode cX7_restore 1 = .ok (.getfield 294, 3) := by decide +kernel
theorem dX7_restore_4 : decode cX7_restore 4 = .ok (.ifCond .ne 10, 3) := by decide +kernel
theorem dX7_restore_7 : decode cX7_restore 7 = .ok (.aload_n 0, 1) := by decide +kernel
theorem dX7_restore_8 : decode cX7_restore 8 = .ok (.bipush (-6), 2) := by decide +kernel
theorem dX7_restore_10 : decode cX7_restore 10 = .ok (.invokevirtual 100, 3) := by decide +kernel
theorem dX7_restore_13 : decode cX7_restore 13 = .ok (.ireturn, 1) := by decide +kernel
theorem dX7_restore_14 : decode cX7_restore 14 = .ok (.aload_n 0, 1) := by decide +kernel
theorem dX7_restore_15 : decode cX7_restore 15 = .ok (.aload_n 0, 1) := by decide +kernel
theorem dX7_restore_16 : decode cX7_restore 16 = .ok (.getfield 72, 3) := by decide +kernel
theorem dX7_restore_19 : decode cX7_restore 19 = .ok (.iconst 1, 1) := by decide +kernel
theorem dX7_restore_20 : decode cX7_restore 20 = .ok (.invokevirtual 170, 3) := by decide +kernel
theorem dX7_restore_23 : decode cX7_restore 23 = .ok (.iconst 0, 1) := by decide +kernel
theorem dX7_restore_24 : decode cX7_restore 24 = .ok (.istore_n 1, 1) := by decide +kernel
theorem dX7_restore_25 : decode cX7_restore 25 = .ok (.iload_n 1, 1) := by decide +kernel
theorem dX7_restore_26 : decode cX7_restore 26 = .ok (.bipush 8, 2) := by decide +kernel
theorem dX7_restore_28 : decode cX7_restore 28 = .ok (.if_icmp .ge 39, 3) := by decide +kernel
theorem dX7_restore_31 : decode cX7_restore 31 = .ok (.aload_n 0, 1) := by decide +kernel
theorem dX7_restore_32 : decode cX7_restore 32 = .ok (.getfield 44, 3) := by decide +kernel
theorem dX7_restore_35 : decode cX7_restore 35 = .ok (.iload_n 1, 1) := by decide +kernel
theorem dX7_restore_36 : decode cX7_restore 36 = .ok (.iaload, 1) := by decide +kernel
theorem dX7_restore_37 : decode cX7_restore 37 = .ok (.iconst 2, 1) := by decide +kernel
theorem dX7_restore_38 : decode cX7_restore 38 = .ok (.if_icmp .ne 23, 3) := by decide +kernel
theorem dX7_restore_41 : decode cX7_restore 41 = .ok (.aload_n 0, 1) := by decide +kernel
theorem dX7_restore_42 : decode cX7_restore 42 = .ok (.getfield 53, 3) := by decide +kernel
theorem dX7_restore_45 : decode cX7_restore 45 = .ok (.iload_n 1, 1) := by decide +kernel
theorem dX7_restore_46 : decode cX7_restore 46 = .ok (.iaload, 1) := by decide +kernel
theorem dX7_restore_47 : decode cX7_restore 47 = .ok (.aload_n 0, 1) := by decide +kernel
theorem dX7_restore_48 : decode cX7_restore 48 = .ok (.getfield 90, 3) := by decide +kernel
theorem dX7_restore_51 : decode cX7_restore 51 = .ok (.if_icmp .lt 10, 3) := by decide +kernel
theorem dX7_restore_54 : decode cX7_restore 54 = .ok (.aload_n 0, 1) := by decide +kernel
theorem dX7_restore_55 : decode cX7_restore 55 = .ok (.getfield 44, 3) := by decide +kernel
theorem dX7_restore_58 : decode cX7_restore 58 = .ok (.iload_n 1, 1) := by decide +kernel
theorem dX7_restore_59 : decode cX7_restore 59 = .ok (.iconst 0, 1) := by decide +kernel
theorem dX7_restore_60 : decode cX7_restore 60 = .ok (.iastore, 1) := by decide +kernel
theorem dX7_restore_61 : decode cX7_restore 61 = .ok (.iinc 1 1, 3) := by decide +kernel
theorem dX7_restore_64 : decode cX7_restore 64 = .ok (.goto (-39), 3) := by decide +kernel
theorem dX7_restore_67 : decode cX7_restore 67 = .ok (.aload_n 0, 1) := by decide +kernel
theorem dX7_restore_68 : decode cX7_restore 68 = .ok (.getfield 90, 3) := by decide +kernel
theorem dX7_restore_71 : decode cX7_restore 71 = .ok (.ireturn, 1) := by decide +kernel
theorem dX7_status_0 : decode cX7_status 0 = .ok (.iload_n 1, 1) := by decide +kernel
theorem dX7_status_1 : decode cX7_status 1 = .ok (.bipush 11, 2) := by decide +kernel
theorem dX7_status_3 : decode cX7_status 3 = .ok (.if_icmp .lt 19, 3) := by decide +kernel
theorem dX7_status_6 : decode cX7_status 6 = .ok (.iload_n 1, 1) := by decide +kernel
theorem dX7_status_7 : decode cX7_status 7 = .ok (.bipush 17, 2) := by decide +kernel
theorem dX7_status_9 : decode cX7_status 9 = .ok (.if_icmp .gt 13, 3) := by decide +kernel
theorem dX7_status_12 : decode cX7_status 12 = .ok (.aload_n 0, 1) := by decide +kernel
theorem dX7_status_13 : decode cX7_status 13 = .ok (.getfield 25, 3) := by decide +kernel
theorem dX7_status_16 : decode cX7_status 16 = .ok (.iload_n 1, 1) := by decide +kernel
theorem dX7_status_17 : decode cX7_status 17 = .ok (.bipush 10, 2) := by decide +kernel
theorem dX7_status_19 : decode cX7_status 19 = .ok (.isub, 1) := by decide +kernel
theorem dX7_status_20 : decode cX7_status 20 = .ok (.iaload, 1) := by decide +kernel
theorem dX7_status_21 : decode cX7_status 21 = .ok (.ireturn, 1) := by decide +kernel
theorem dX7_status_22 : decode cX7_status 22 = .ok (.iconst 0, 1) := by decide +kernel
theorem dX7_status_23 : decode cX7_status 23 = .ok (.istore_n 2, 1) := by decide +kernel
theorem dX7_status_24 : decode cX7_status 24 = .ok (.iload_n 1, 1) := by decide +kernel
theorem dX7_status_25 : decode cX7_status 25 = .ok (.tableswitch 127 0 9 #[55, 60, 87, 92, 97, 102, 107, 112, 117, 122], 55) := by decide +kernel
theorem dX7_status_80 : decode cX7_status 80 = .ok (.aload_n 0, 1) := by decide +kernel
theorem dX7_status_81 : decode cX7_status 81 = .ok (.getfield 90, 3) := by decide +kernel
theorem dX7_status_84 : decode cX7_status 84 = .ok (.ireturn, 1) := by decide +kernel
theorem dX7_status_85 : decode cX7_status 85 = .ok (.iconst 0, 1) := by decide +kernel
theorem dX7_status_86 : decode cX7_status 86 = .ok (.istore_n 3, 1) := by decide +kernel
theorem dX7_status_87 : decode cX7_status 87 = .ok (.iload_n 3, 1) := by decide +kernel
theorem dX7_status_88 : decode cX7_status 88 = .ok (.aload_n 0, 1) := by decide +kernel
theorem dX7_status_89 : decode cX7_status 89 = .ok (.getfield 90, 3) := by decide +kernel
theorem dX7_status_92 : decode cX7_status 92 = .ok (.if_icmp .ge 18, 3) := by decide +kernel
theorem dX7_status_95 : decode cX7_status 95 = .ok (.iload_n 2, 1) := by decide +kernel
theorem dX7_status_96 : decode cX7_status 96 = .ok (.aload_n 0, 1) := by decide +kernel
theorem dX7_status_97 : decode cX7_status 97 = .ok (.getfield 35, 3) := by decide +kernel
theorem dX7_status_100 : decode cX7_status 100 = .ok (.iload_n 3, 1) := by decide +kernel
theorem dX7_status_101 : decode cX7_status 101 = .ok (.iaload, 1) := by decide +kernel
theorem dX7_status_102 : decode cX7_status 102 = .ok (.iadd, 1) := by decide +kernel
theorem dX7_status_103 : decode cX7_status 103 = .ok (.istore_n 2, 1) := by decide +kernel
theorem dX7_status_104 : decode cX7_status 104 = .ok (.iinc 3 1, 3) := by decide +kernel
theorem dX7_status_107 : decode cX7_status 107 = .ok (.goto (-20), 3) := by decide +kernel
theorem dX7_status_110 : decode cX7_status 110 = .ok (.iload_n 2, 1) := by decide +kernel
theorem dX7_status_111 : decode cX7_status 111 = .ok (.ireturn, 1) := by decide +kernel
theorem dX7_status_112 : decode cX7_status 112 = .ok (.aload_n 0, 1) := by decide +kernel
theorem dX7_status_113 : decode cX7_status 113 = .ok (.getfield 7, 3) := by decide +kernel
theorem dX7_status_116 : decode cX7_status 116 = .ok (.ireturn, 1) := by decide +kernel
theorem dX7_status_117 : decode cX7_status 117 = .ok (.aload_n 0, 1) := by decide +kernel
theorem dX7_status_118 : decode cX7_status 118 = .ok (.getfield 13, 3) := by decide +kernel
theorem dX7_status_121 : decode cX7_status 121 = .ok (.ireturn, 1) := by decide +kernel
theorem dX7_status_122 : decode cX7_status 122 = .ok (.aload_n 0, 1) := by decide +kernel
theorem dX7_status_123 : decode cX7_status 123 = .ok (.getfield 16, 3) := by decide +kernel
theorem dX7_status_126 : decode cX7_status 126 = .ok (.ireturn, 1) := by decide +kernel
theorem dX7_status_127 : decode cX7_status 127 = .ok (.aload_n 0, 1) := by decide +kernel
theorem dX7_status_128 : decode cX7_status 128 = .ok (.getfield 158, 3) := by decide +kernel
theorem dX7_status_131 : decode cX7_status 131 = .ok (.ireturn, 1) := by decide +kernel
theorem dX7_status_132 : decode cX7_status 132 = .ok (.aload_n 0, 1) := by decide +kernel
theorem dX7_status_133 : decode cX7_status 133 = .ok (.getfield 161, 3) := by decide +kernel
theorem dX7_status_136 : decode cX7_status 136 = .ok (.ireturn, 1) := by decide +kernel
theorem dX7_status_137 : decode cX7_status 137 = .ok (.aload_n 0, 1) := by decide +kernel
theorem dX7_status_138 : decode cX7_status 138 = .ok (.getfield 164, 3) := by decide +kernel
theorem dX7_status_141 : decode cX7_status 141 = .ok (.ireturn, 1) := by decide +kernel
theorem dX7_status_142 : decode cX7_status 142 = .ok (.aload_n 0, 1) := by decide +kernel
theorem dX7_status_143 : decode cX7_status 143 = .ok (.getfield 19, 3) := by decide +kernel
theorem dX7_status_146 : decode cX7_status 146 = .ok (.ireturn, 1) := by decide +kernel
theorem dX7_status_147 : decode cX7_status 147 = .ok (.aload_n 0, 1) := by decide +kernel
theorem dX7_status_148 : decode cX7_status 148 = .ok (.getfield 279, 3) := by decide +kernel
theorem dX7_status_151 : decode cX7_status 151 = .ok (.ireturn, 1) := by decide +kernel
theorem dX7_status_152 : decode cX7_status 152 = .ok (.iconst (-1), 1) := by decide +kernel
theorem dX7_status_153 : decode cX7_status 153 = .ok (.ireturn, 1) := by decide +kernel
end
section
theorem dL_law_0 : decode cL_law 0 = .ok (.new 7, 3) := by decide +kernel
theorem dL_law_3 : decode cL_law 3 = .ok (.dup, 1) := by decide +kernel
theorem dL_law_4 : decode cL_law 4 = .ok (.invokespecial 9, 3) := by decide +kernel
theorem dL_law_7 : decode cL_law 7 = .ok (.astore_n 1, 1) := by decide +kernel
theorem dL_law_8 : decode cL_law 8 = .ok (.new 10, 3) := by decide +kernel
theorem dL_law_11 : decode cL_law 11 = .ok (.dup, 1) := by decide +kernel
theorem dL_law_12 : decode cL_law 12 = .ok (.invokespecial 12, 3) := by decide +kernel
theorem dL_law_15 : decode cL_law 15 = .ok (.astore_n 2, 1) := by decide +kernel
theorem dL_law_16 : decode cL_law 16 = .ok (.iconst 0, 1) := by decide +kernel
theorem dL_law_17 : decode cL_law 17 = .ok (.istore_n 3, 1) := by decide +kernel
theorem dL_law_18 : decode cL_law 18 = .ok (.iload_n 3, 1) := by decide +kernel
theorem dL_law_19 : decode cL_law 19 = .ok (.aload_n 0, 1) := by decide +kernel
theorem dL_law_20 : decode cL_law 20 = .ok (.arraylength, 1) := by decide +kernel
theorem dL_law_21 : decode cL_law 21 = .ok (.bipush 6, 2) := by decide +kernel
theorem dL_law_23 : decode cL_law 23 = .ok (.isub, 1) := by decide +kernel
theorem dL_law_24 : decode cL_law 24 = .ok (.if_icmp .gt 1796, 3) := by decide +kernel
theorem dL_law_27 : decode cL_law 27 = .ok (.aload_n 0, 1) := by decide +kernel
theorem dL_law_28 : decode cL_law 28 = .ok (.iload_n 3, 1) := by decide +kernel
theorem dL_law_29 : decode cL_law 29 = .ok (.iaload, 1) := by decide +kernel
theorem dL_law_30 : decode cL_law 30 = .ok (.bipush 63, 2) := by decide +kernel
theorem dL_law_32 : decode cL_law 32 = .ok (.iand, 1) := by decide +kernel
theorem dL_law_33 : decode cL_law 33 = .ok (.tableswitch 1781 0 41 #[183, 226, 299, 362, 396, 429, 452, 485, 528, 561, 604, 637, 670, 693, 706, 739, 782, 805, 858, 921, 974, 1017, 1060, 1113, 1156, 1219, 1262, 1315, 1368, 1412, 1465, 1498, 1541, 1574, 1597, 1620, 1643, 1666, 1709, 1732, 1745, 1758], 183) := by decide +kernel
theorem dL_law_216 : decode cL_law 216 = .ok (.aload_n 1, 1) := by decide +kernel
theorem dL_law_217 : decode cL_law 217 = .ok (.aload_n 0, 1) := by decide +kernel
theorem dL_law_218 : decode cL_law 218 = .ok (.iload_n 3, 1) := by decide +kernel
theorem dL_law_219 : decode cL_law 219 = .ok (.iconst 1, 1) := by decide +kernel
theorem dL_law_220 : decode cL_law 220 = .ok (.iadd, 1) := by decide +kernel
theorem dL_law_221 : decode cL_law 221 = .ok (.iaload, 1) := by decide +kernel
theorem dL_law_222 : decode cL_law 222 = .ok (.aload_n 0, 1) := by decide +kernel
theorem dL_law_223 : decode cL_law 223 = .ok (.iload_n 3, 1) := by decide +kernel
theorem dL_law_224 : decode cL_law 224 = .ok (.iconst 2, 1) := by decide +kernel
theorem dL_law_225 : decode cL_law 225 = .ok (.iadd, 1) := by decide +kernel
theorem dL_law_226 : decode cL_law 226 = .ok (.iaload, 1) := by decide +kernel
theorem dL_law_227 : decode cL_law 227 = .ok (.aload_n 0, 1) := by decide +kernel
theorem dL_law_228 : decode cL_law 228 = .ok (.iload_n 3, 1) := by decide +kernel
theorem dL_law_229 : decode cL_law 229 = .ok (.iconst 3, 1) := by decide +kernel
theorem dL_law_230 : decode cL_law 230 = .ok (.iadd, 1) := by decide +kernel
theorem dL_law_231 : decode cL_law 231 = .ok (.iaload, 1) := by decide +kernel
theorem dL_law_232 : decode cL_law 232 = .ok (.invokevirtual 13, 3) := by decide +kernel
theorem dL_law_235 : decode cL_law 235 = .ok (.aload_n 2, 1) := by decide +kernel
theorem dL_law_236 : decode cL_law 236 = .ok (.aload_n 0, 1) := by decide +kernel
theorem dL_law_237 : decode cL_law 237 = .ok (.iload_n 3, 1) := by decide +kernel
theorem dL_law_238 : decode cL_law 238 = .ok (.iconst 1, 1) := by decide +kernel
theorem dL_law_239 : decode cL_law 239 = .ok (.iadd, 1) := by decide +kernel
theorem dL_law_240 : decode cL_law 240 = .ok (.iaload, 1) := by decide +kernel
theorem dL_law_241 : decode cL_law 241 = .ok (.aload_n 0, 1) := by decide +kernel
theorem dL_law_242 : decode cL_law 242 = .ok (.iload_n 3, 1) := by decide +kernel
theorem dL_law_243 : decode cL_law 243 = .ok (.iconst 2, 1) := by decide +kernel
theorem dL_law_244 : decode cL_law 244 = .ok (.iadd, 1) := by decide +kernel
theorem dL_law_245 : decode cL_law 245 = .ok (.iaload, 1) := by decide +kernel
theorem dL_law_246 : decode cL_law 246 = .ok (.aload_n 0, 1) := by decide +kernel
theorem dL_law_247 : decode cL_law 247 = .ok (.iload_n 3, 1) := by decide +kernel
theorem dL_law_248 : decode cL_law 248 = .ok (.iconst 3, 1) := by decide +kernel
theorem dL_law_249 : decode cL_law 249 = .ok (.iadd, 1) := by decide +kernel
theorem dL_law_250 : decode cL_law 250 = .ok (.iaload, 1) := by decide +kernel
theorem dL_law_251 : decode cL_law 251 = .ok (.invokevirtual 17, 3) := by decide +kernel
theorem dL_law_254 : decode cL_law 254 = .ok (.if_icmp .eq 1560, 3) := by decide +kernel
theorem dL_law_257 : decode cL_law 257 = .ok (.iconst 0, 1) := by decide +kernel
theorem dL_law_258 : decode cL_law 258 = .ok (.ireturn, 1) := by decide +kernel
theorem dL_law_259 : decode cL_law 259 = .ok (.aload_n 1, 1) := by decide +kernel
theorem dL_law_260 : decode cL_law 260 = .ok (.aload_n 0, 1) := by decide +kernel
theorem dL_law_261 : decode cL_law 261 = .ok (.iload_n 3, 1) := by decide +kernel
theorem dL_law_262 : decode cL_law 262 = .ok (.iconst 1, 1) := by decide +kernel
theorem dL_law_263 : decode cL_law 263 = .ok (.iadd, 1) := by decide +kernel
theorem dL_law_264 : decode cL_law 264 = .ok (.iaload, 1) := by decide +kernel
theorem dL_law_265 : decode cL_law 265 = .ok (.aload_n 0, 1) := by decide +kernel
theorem dL_law_266 : decode cL_law 266 = .ok (.iload_n 3, 1) := by decide +kernel
theorem dL_law_267 : decode cL_law 267 = .ok (.iconst 2, 1) := by decide +kernel
theorem dL_law_268 : decode cL_law 268 = .ok (.iadd, 1) := by decide +kernel
theorem dL_law_269 : decode cL_law 269 = .ok (.iaload, 1) := by decide +kernel
theorem dL_law_270 : decode cL_law 270 = .ok (.aload_n 0, 1) := by decide +kernel
theorem dL_law_271 : decode cL_law 271 = .ok (.iload_n 3, 1) := by decide +kernel
theorem dL_law_272 : decode cL_law 272 = .ok (.iconst 3, 1) := by decide +kernel
theorem dL_law_273 : decode cL_law 273 = .ok (.iadd, 1) := by decide +kernel
theorem dL_law_274 : decode cL_law 274 = .ok (.iaload, 1) := by decide +kernel
theorem dL_law_275 : decode cL_law 275 = .ok (.i2l, 1) := by decide +kernel
theorem dL_law_276 : decode cL_law 276 = .ok (.bipush 32, 2) := by decide +kernel
theorem dL_law_278 : decode cL_law 278 = .ok (.lshl, 1) := by decide +kernel
theorem dL_law_279 : decode cL_law 279 = .ok (.aload_n 0, 1) := by decide +kernel
theorem dL_law_280 : decode cL_law 280 = .ok (.iload_n 3, 1) := by decide +kernel
theorem dL_law_281 : decode cL_law 281 = .ok (.iconst 4, 1) := by decide +kernel
theorem dL_law_282 : decode cL_law 282 = .ok (.iadd, 1) := by decide +kernel
theorem dL_law_283 : decode cL_law 283 = .ok (.iaload, 1) := by decide +kernel
theorem dL_law_284 : decode cL_law 284 = .ok (.i2l, 1) := by decide +kernel
theorem dL_law_285 : decode cL_law 285 = .ok (.ldc2_w 18, 3) := by decide +kernel
theorem dL_law_288 : decode cL_law 288 = .ok (.land, 1) := by decide +kernel
theorem dL_law_289 : decode cL_law 289 = .ok (.lor, 1) := by decide +kernel
theorem dL_law_290 : decode cL_law 290 = .ok (.invokevirtual 20, 3) := by decide +kernel
theorem dL_law_293 : decode cL_law 293 = .ok (.aload_n 2, 1) := by decide +kernel
theorem dL_law_294 : decode cL_law 294 = .ok (.aload_n 0, 1) := by decide +kernel
theorem dL_law_295 : decode cL_law 295 = .ok (.iload_n 3, 1) := by decide +kernel
theorem dL_law_296 : decode cL_law 296 = .ok (.iconst 1, 1) := by decide +kernel
theorem dL_law_297 : decode cL_law 297 = .ok (.iadd, 1) := by decide +kernel
theorem dL_law_298 : decode cL_law 298 = .ok (.iaload, 1) := by decide +kernel
theorem dL_law_299 : decode cL_law 299 = .ok (.aload_n 0, 1) := by decide +kernel
theorem dL_law_300 : decode cL_law 300 = .ok (.iload_n 3, 1) := by decide +kernel
theorem dL_law_301 : decode cL_law 301 = .ok (.iconst 2, 1) := by decide +kernel
theorem dL_law_302 : decode cL_law 302 = .ok (.iadd, 1) := by decide +kernel
theorem dL_law_303 : decode cL_law 303 = .ok (.iaload, 1) := by decide +kernel
theorem dL_law_304 : decode cL_law 304 = .ok (.aload_n 0, 1) := by decide +kernel
theorem dL_law_305 : decode cL_law 305 = .ok (.iload_n 3, 1) := by decide +kernel
theorem dL_law_306 : decode cL_law 306 = .ok (.iconst 3, 1) := by decide +kernel
theorem dL_law_307 : decode cL_law 307 = .ok (.iadd, 1) := by decide +kernel
theorem dL_law_308 : decode cL_law 308 = .ok (.iaload, 1) := by decide +kernel
theorem dL_law_309 : decode cL_law 309 = .ok (.i2l, 1) := by decide +kernel
theorem dL_law_310 : decode cL_law 310 = .ok (.bipush 32, 2) := by decide +kernel
theorem dL_law_312 : decode cL_law 312 = .ok (.lshl, 1) := by decide +kernel
theorem dL_law_313 : decode cL_law 313 = .ok (.aload_n 0, 1) := by decide +kernel
theorem dL_law_314 : decode cL_law 314 = .ok (.iload_n 3, 1) := by decide +kernel
theorem dL_law_315 : decode cL_law 315 = .ok (.iconst 4, 1) := by decide +kernel
theorem dL_law_316 : decode cL_law 316 = .ok (.iadd, 1) := by decide +kernel
theorem dL_law_317 : decode cL_law 317 = .ok (.iaload, 1) := by decide +kernel
theorem dL_law_318 : decode cL_law 318 = .ok (.i2l, 1) := by decide +kernel
theorem dL_law_319 : decode cL_law 319 = .ok (.ldc2_w 18, 3) := by decide +kernel
theorem dL_law_322 : decode cL_law 322 = .ok (.land, 1) := by decide +kernel
theorem dL_law_323 : decode cL_law 323 = .ok (.lor, 1) := by decide +kernel
theorem dL_law_324 : decode cL_law 324 = .ok (.invokevirtual 24, 3) := by decide +kernel
theorem dL_law_327 : decode cL_law 327 = .ok (.if_icmp .eq 1487, 3) := by decide +kernel
theorem dL_law_330 : decode cL_law 330 = .ok (.iconst 0, 1) := by decide +kernel
theorem dL_law_331 : decode cL_law 331 = .ok (.ireturn, 1) := by decide +kernel
theorem dL_law_332 : decode cL_law 332 = .ok (.aload_n 1, 1) := by decide +kernel
theorem dL_law_333 : decode cL_law 333 = .ok (.aload_n 0, 1) := by decide +kernel
theorem dL_law_334 : decode cL_law 334 = .ok (.iload_n 3, 1) := by decide +kernel
theorem dL_law_335 : decode cL_law 335 = .ok (.iconst 1, 1) := by decide +kernel
theorem dL_law_336 : decode cL_law 336 = .ok (.iadd, 1) := by decide +kernel
theorem dL_law_337 : decode cL_law 337 = .ok (.iaload, 1) := by decide +kernel
theorem dL_law_338 : decode cL_law 338 = .ok (.aload_n 0, 1) := by decide +kernel
theorem dL_law_339 : decode cL_law 339 = .ok (.iload_n 3, 1) := by decide +kernel
theorem dL_law_340 : decode cL_law 340 = .ok (.iconst 2, 1) := by decide +kernel
theorem dL_law_341 : decode cL_law 341 = .ok (.iadd, 1) := by decide +kernel
theorem dL_law_342 : decode cL_law 342 = .ok (.iaload, 1) := by decide +kernel
theorem dL_law_343 : decode cL_law 343 = .ok (.aload_n 0, 1) := by decide +kernel
theorem dL_law_344 : decode cL_law 344 = .ok (.iload_n 3, 1) := by decide +kernel
theorem dL_law_345 : decode cL_law 345 = .ok (.iconst 3, 1) := by decide +kernel
theorem dL_law_346 : decode cL_law 346 = .ok (.iadd, 1) := by decide +kernel
theorem dL_law_347 : decode cL_law 347 = .ok (.iaload, 1) := by decide +kernel
theorem dL_law_348 : decode cL_law 348 = .ok (.aload_n 0, 1) := by decide +kernel
theorem dL_law_349 : decode cL_law 349 = .ok (.iload_n 3, 1) := by decide +kernel
theorem dL_law_350 : decode cL_law 350 = .ok (.iconst 4, 1) := by decide +kernel
theorem dL_law_351 : decode cL_law 351 = .ok (.iadd, 1) := by decide +kernel
theorem dL_law_352 : decode cL_law 352 = .ok (.iaload, 1) := by decide +kernel
theorem dL_law_353 : decode cL_law 353 = .ok (.aload_n 0, 1) := by decide +kernel
theorem dL_law_354 : decode cL_law 354 = .ok (.iload_n 3, 1) := by decide +kernel
theorem dL_law_355 : decode cL_law 355 = .ok (.iconst 5, 1) := by decide +kernel
theorem dL_law_356 : decode cL_law 356 = .ok (.iadd, 1) := by decide +kernel
theorem dL_law_357 : decode cL_law 357 = .ok (.iaload, 1) := by decide +kernel
theorem dL_law_358 : decode cL_law 358 = .ok (.invokevirtual 25, 3) := by decide +kernel
theorem dL_law_361 : decode cL_law 361 = .ok (.aload_n 2, 1) := by decide +kernel
theorem dL_law_362 : decode cL_law 362 = .ok (.aload_n 0, 1) := by decide +kernel
theorem dL_law_363 : decode cL_law 363 = .ok (.iload_n 3, 1) := by decide +kernel
theorem dL_law_364 : decode cL_law 364 = .ok (.iconst 1, 1) := by decide +kernel
theorem dL_law_365 : decode cL_law 365 = .ok (.iadd, 1) := by decide +kernel
theorem dL_law_366 : decode cL_law 366 = .ok (.iaload, 1) := by decide +kernel
theorem dL_law_367 : decode cL_law 367 = .ok (.aload_n 0, 1) := by decide +kernel
theorem dL_law_368 : decode cL_law 368 = .ok (.iload_n 3, 1) := by decide +kernel
theorem dL_law_369 : decode cL_law 369 = .ok (.iconst 2, 1) := by decide +kernel
theorem dL_law_370 : decode cL_law 370 = .ok (.iadd, 1) := by decide +kernel
theorem dL_law_371 : decode cL_law 371 = .ok (.iaload, 1) := by decide +kernel
theorem dL_law_372 : decode cL_law 372 = .ok (.aload_n 0, 1) := by decide +kernel
theorem dL_law_373 : decode cL_law 373 = .ok (.iload_n 3, 1) := by decide +kernel
theorem dL_law_374 : decode cL_law 374 = .ok (.iconst 3, 1) := by decide +kernel
theorem dL_law_375 : decode cL_law 375 = .ok (.iadd, 1) := by decide +kernel
theorem dL_law_376 : decode cL_law 376 = .ok (.iaload, 1) := by decide +kernel
theorem dL_law_377 : decode cL_law 377 = .ok (.aload_n 0, 1) := by decide +kernel
theorem dL_law_378 : decode cL_law 378 = .ok (.iload_n 3, 1) := by decide +kernel
theorem dL_law_379 : decode cL_law 379 = .ok (.iconst 4, 1) := by decide +kernel
theorem dL_law_380 : decode cL_law 380 = .ok (.iadd, 1) := by decide +kernel
theorem dL_law_381 : decode cL_law 381 = .ok (.iaload, 1) := by decide +kernel
theorem dL_law_382 : decode cL_law 382 = .ok (.aload_n 0, 1) := by decide +kernel
theorem dL_law_383 : decode cL_law 383 = .ok (.iload_n 3, 1) := by decide +kernel
theorem dL_law_384 : decode cL_law 384 = .ok (.iconst 5, 1) := by decide +kernel
theorem dL_law_385 : decode cL_law 385 = .ok (.iadd, 1) := by decide +kernel
theorem dL_law_386 : decode cL_law 386 = .ok (.iaload, 1) := by decide +kernel
theorem dL_law_387 : decode cL_law 387 = .ok (.invokevirtual 29, 3) := by decide +kernel
theorem dL_law_390 : decode cL_law 390 = .ok (.if_icmp .eq 1424, 3) := by decide +kernel
theorem dL_law_393 : decode cL_law 393 = .ok (.iconst 0, 1) := by decide +kernel
theorem dL_law_394 : decode cL_law 394 = .ok (.ireturn, 1) := by decide +kernel
theorem dL_law_395 : decode cL_law 395 = .ok (.aload_n 1, 1) := by decide +kernel
theorem dL_law_396 : decode cL_law 396 = .ok (.aload_n 0, 1) := by decide +kernel
theorem dL_law_397 : decode cL_law 397 = .ok (.iload_n 3, 1) := by decide +kernel
theorem dL_law_398 : decode cL_law 398 = .ok (.iconst 1, 1) := by decide +kernel
theorem dL_law_399 : decode cL_law 399 = .ok (.iadd, 1) := by decide +kernel
theorem dL_law_400 : decode cL_law 400 = .ok (.iaload, 1) := by decide +kernel
theorem dL_law_401 : decode cL_law 401 = .ok (.aload_n 0, 1) := by decide +kernel
theorem dL_law_402 : decode cL_law 402 = .ok (.iload_n 3, 1) := by decide +kernel
theorem dL_law_403 : decode cL_law 403 = .ok (.iconst 2, 1) := by decide +kernel
theorem dL_law_404 : decode cL_law 404 = .ok (.iadd, 1) := by decide +kernel
theorem dL_law_405 : decode cL_law 405 = .ok (.iaload, 1) := by decide +kernel
theorem dL_law_406 : decode cL_law 406 = .ok (.invokevirtual 30, 3) := by decide +kernel
theorem dL_law_409 : decode cL_law 409 = .ok (.aload_n 2, 1) := by decide +kernel
theorem dL_law_410 : decode cL_law 410 = .ok (.aload_n 0, 1) := by decide +kernel
theorem dL_law_411 : decode cL_law 411 = .ok (.iload_n 3, 1) := by decide +kernel
theorem dL_law_412 : decode cL_law 412 = .ok (.iconst 1, 1) := by decide +kernel
theorem dL_law_413 : decode cL_law 413 = .ok (.iadd, 1) := by decide +kernel
theorem dL_law_414 : decode cL_law 414 = .ok (.iaload, 1) := by decide +kernel
theorem dL_law_415 : decode cL_law 415 = .ok (.aload_n 0, 1) := by decide +kernel
theorem dL_law_416 : decode cL_law 416 = .ok (.iload_n 3, 1) := by decide +kernel
theorem dL_law_417 : decode cL_law 417 = .ok (.iconst 2, 1) := by decide +kernel
theorem dL_law_418 : decode cL_law 418 = .ok (.iadd, 1) := by decide +kernel
theorem dL_law_419 : decode cL_law 419 = .ok (.iaload, 1) := by decide +kernel
theorem dL_law_420 : decode cL_law 420 = .ok (.invokevirtual 34, 3) := by decide +kernel
theorem dL_law_423 : decode cL_law 423 = .ok (.lcmp, 1) := by decide +kernel
theorem dL_law_424 : decode cL_law 424 = .ok (.ifCond .eq 1390, 3) := by decide +kernel
theorem dL_law_427 : decode cL_law 427 = .ok (.iconst 0, 1) := by decide +kernel
theorem dL_law_428 : decode cL_law 428 = .ok (.ireturn, 1) := by decide +kernel
theorem dL_law_429 : decode cL_law 429 = .ok (.aload_n 1, 1) := by decide +kernel
theorem dL_law_430 : decode cL_law 430 = .ok (.aload_n 0, 1) := by decide +kernel
theorem dL_law_431 : decode cL_law 431 = .ok (.iload_n 3, 1) := by decide +kernel
theorem dL_law_432 : decode cL_law 432 = .ok (.iconst 1, 1) := by decide +kernel
theorem dL_law_433 : decode cL_law 433 = .ok (.iadd, 1) := by decide +kernel
theorem dL_law_434 : decode cL_law 434 = .ok (.iaload, 1) := by decide +kernel
theorem dL_law_435 : decode cL_law 435 = .ok (.aload_n 0, 1) := by decide +kernel
theorem dL_law_436 : decode cL_law 436 = .ok (.iload_n 3, 1) := by decide +kernel
theorem dL_law_437 : decode cL_law 437 = .ok (.iconst 2, 1) := by decide +kernel
theorem dL_law_438 : decode cL_law 438 = .ok (.iadd, 1) := by decide +kernel
theorem dL_law_439 : decode cL_law 439 = .ok (.iaload, 1) := by decide +kernel
theorem dL_law_440 : decode cL_law 440 = .ok (.invokevirtual 35, 3) := by decide +kernel
theorem dL_law_443 : decode cL_law 443 = .ok (.aload_n 2, 1) := by decide +kernel
theorem dL_law_444 : decode cL_law 444 = .ok (.aload_n 0, 1) := by decide +kernel
theorem dL_law_445 : decode cL_law 445 = .ok (.iload_n 3, 1) := by decide +kernel
theorem dL_law_446 : decode cL_law 446 = .ok (.iconst 1, 1) := by decide +kernel
theorem dL_law_447 : decode cL_law 447 = .ok (.iadd, 1) := by decide +kernel
theorem dL_law_448 : decode cL_law 448 = .ok (.iaload, 1) := by decide +kernel
theorem dL_law_449 : decode cL_law 449 = .ok (.aload_n 0, 1) := by decide +kernel
theorem dL_law_450 : decode cL_law 450 = .ok (.iload_n 3, 1) := by decide +kernel
theorem dL_law_451 : decode cL_law 451 = .ok (.iconst 2, 1) := by decide +kernel
theorem dL_law_452 : decode cL_law 452 = .ok (.iadd, 1) := by decide +kernel
theorem dL_law_453 : decode cL_law 453 = .ok (.iaload, 1) := by decide +kernel
theorem dL_law_454 : decode cL_law 454 = .ok (.invokevirtual 39, 3) := by decide +kernel
theorem dL_law_457 : decode cL_law 457 = .ok (.if_icmp .eq 1357, 3) := by decide +kernel
theorem dL_law_460 : decode cL_law 460 = .ok (.iconst 0, 1) := by decide +kernel
theorem dL_law_461 : decode cL_law 461 = .ok (.ireturn, 1) := by decide +kernel
theorem dL_law_462 : decode cL_law 462 = .ok (.aload_n 1, 1) := by decide +kernel
theorem dL_law_463 : decode cL_law 463 = .ok (.aload_n 0, 1) := by decide +kernel
theorem dL_law_464 : decode cL_law 464 = .ok (.iload_n 3, 1) := by decide +kernel
theorem dL_law_465 : decode cL_law 465 = .ok (.iconst 1, 1) := by decide +kernel
theorem dL_law_466 : decode cL_law 466 = .ok (.iadd, 1) := by decide +kernel
theorem dL_law_467 : decode cL_law 467 = .ok (.iaload, 1) := by decide +kernel
theorem dL_law_468 : decode cL_law 468 = .ok (.invokevirtual 40, 3) := by decide +kernel
theorem dL_law_471 : decode cL_law 471 = .ok (.aload_n 2, 1) := by decide +kernel
theorem dL_law_472 : decode cL_law 472 = .ok (.aload_n 0, 1) := by decide +kernel
theorem dL_law_473 : decode cL_law 473 = .ok (.iload_n 3, 1) := by decide +kernel
theorem dL_law_474 : decode cL_law 474 = .ok (.iconst 1, 1) := by decide +kernel
theorem dL_law_475 : decode cL_law 475 = .ok (.iadd, 1) := by decide +kernel
theorem dL_law_476 : decode cL_law 476 = .ok (.iaload, 1) := by decide +kernel
theorem dL_law_477 : decode cL_law 477 = .ok (.invokevirtual 44, 3) := by decide +kernel
theorem dL_law_480 : decode cL_law 480 = .ok (.if_icmp .eq 1334, 3) := by decide +kernel
theorem dL_law_483 : decode cL_law 483 = .ok (.iconst 0, 1) := by decide +kernel
theorem dL_law_484 : decode cL_law 484 = .ok (.ireturn, 1) := by decide +kernel
theorem dL_law_485 : decode cL_law 485 = .ok (.aload_n 1, 1) := by decide +kernel
theorem dL_law_486 : decode cL_law 486 = .ok (.aload_n 0, 1) := by decide +kernel
theorem dL_law_487 : decode cL_law 487 = .ok (.iload_n 3, 1) := by decide +kernel
theorem dL_law_488 : decode cL_law 488 = .ok (.iconst 1, 1) := by decide +kernel
theorem dL_law_489 : decode cL_law 489 = .ok (.iadd, 1) := by decide +kernel
theorem dL_law_490 : decode cL_law 490 = .ok (.iaload, 1) := by decide +kernel
theorem dL_law_491 : decode cL_law 491 = .ok (.aload_n 0, 1) := by decide +kernel
theorem dL_law_492 : decode cL_law 492 = .ok (.iload_n 3, 1) := by decide +kernel
theorem dL_law_493 : decode cL_law 493 = .ok (.iconst 2, 1) := by decide +kernel
theorem dL_law_494 : decode cL_law 494 = .ok (.iadd, 1) := by decide +kernel
theorem dL_law_495 : decode cL_law 495 = .ok (.iaload, 1) := by decide +kernel
theorem dL_law_496 : decode cL_law 496 = .ok (.invokevirtual 45, 3) := by decide +kernel
theorem dL_law_499 : decode cL_law 499 = .ok (.aload_n 2, 1) := by decide +kernel
theorem dL_law_500 : decode cL_law 500 = .ok (.aload_n 0, 1) := by decide +kernel
theorem dL_law_501 : decode cL_law 501 = .ok (.iload_n 3, 1) := by decide +kernel
theorem dL_law_502 : decode cL_law 502 = .ok (.iconst 1, 1) := by decide +kernel
theorem dL_law_503 : decode cL_law 503 = .ok (.iadd, 1) := by decide +kernel
theorem dL_law_504 : decode cL_law 504 = .ok (.iaload, 1) := by decide +kernel
theorem dL_law_505 : decode cL_law 505 = .ok (.aload_n 0, 1) := by decide +kernel
theorem dL_law_506 : decode cL_law 506 = .ok (.iload_n 3, 1) := by decide +kernel
theorem dL_law_507 : decode cL_law 507 = .ok (.iconst 2, 1) := by decide +kernel
theorem dL_law_508 : decode cL_law 508 = .ok (.iadd, 1) := by decide +kernel
theorem dL_law_509 : decode cL_law 509 = .ok (.iaload, 1) := by decide +kernel
theorem dL_law_510 : decode cL_law 510 = .ok (.invokevirtual 48, 3) := by decide +kernel
theorem dL_law_513 : decode cL_law 513 = .ok (.if_icmp .eq 1301, 3) := by decide +kernel
theorem dL_law_516 : decode cL_law 516 = .ok (.iconst 0, 1) := by decide +kernel
theorem dL_law_517 : decode cL_law 517 = .ok (.ireturn, 1) := by decide +kernel
theorem dL_law_518 : decode cL_law 518 = .ok (.aload_n 1, 1) := by decide +kernel
theorem dL_law_519 : decode cL_law 519 = .ok (.aload_n 0, 1) := by decide +kernel
theorem dL_law_520 : decode cL_law 520 = .ok (.iload_n 3, 1) := by decide +kernel
theorem dL_law_521 : decode cL_law 521 = .ok (.iconst 1, 1) := by decide +kernel
theorem dL_law_522 : decode cL_law 522 = .ok (.iadd, 1) := by decide +kernel
theorem dL_law_523 : decode cL_law 523 = .ok (.iaload, 1) := by decide +kernel
theorem dL_law_524 : decode cL_law 524 = .ok (.aload_n 0, 1) := by decide +kernel
theorem dL_law_525 : decode cL_law 525 = .ok (.iload_n 3, 1) := by decide +kernel
theorem dL_law_526 : decode cL_law 526 = .ok (.iconst 2, 1) := by decide +kernel
theorem dL_law_527 : decode cL_law 527 = .ok (.iadd, 1) := by decide +kernel
theorem dL_law_528 : decode cL_law 528 = .ok (.iaload, 1) := by decide +kernel
theorem dL_law_529 : decode cL_law 529 = .ok (.aload_n 0, 1) := by decide +kernel
theorem dL_law_530 : decode cL_law 530 = .ok (.iload_n 3, 1) := by decide +kernel
theorem dL_law_531 : decode cL_law 531 = .ok (.iconst 3, 1) := by decide +kernel
theorem dL_law_532 : decode cL_law 532 = .ok (.iadd, 1) := by decide +kernel
theorem dL_law_533 : decode cL_law 533 = .ok (.iaload, 1) := by decide +kernel
theorem dL_law_534 : decode cL_law 534 = .ok (.invokevirtual 49, 3) := by decide +kernel
theorem dL_law_537 : decode cL_law 537 = .ok (.aload_n 2, 1) := by decide +kernel
theorem dL_law_538 : decode cL_law 538 = .ok (.aload_n 0, 1) := by decide +kernel
theorem dL_law_539 : decode cL_law 539 = .ok (.iload_n 3, 1) := by decide +kernel
theorem dL_law_540 : decode cL_law 540 = .ok (.iconst 1, 1) := by decide +kernel
theorem dL_law_541 : decode cL_law 541 = .ok (.iadd, 1) := by decide +kernel
theorem dL_law_542 : decode cL_law 542 = .ok (.iaload, 1) := by decide +kernel
theorem dL_law_543 : decode cL_law 543 = .ok (.aload_n 0, 1) := by decide +kernel
theorem dL_law_544 : decode cL_law 544 = .ok (.iload_n 3, 1) := by decide +kernel
theorem dL_law_545 : decode cL_law 545 = .ok (.iconst 2, 1) := by decide +kernel
theorem dL_law_546 : decode cL_law 546 = .ok (.iadd, 1) := by decide +kernel
theorem dL_law_547 : decode cL_law 547 = .ok (.iaload, 1) := by decide +kernel
theorem dL_law_548 : decode cL_law 548 = .ok (.aload_n 0, 1) := by decide +kernel
theorem dL_law_549 : decode cL_law 549 = .ok (.iload_n 3, 1) := by decide +kernel
theorem dL_law_550 : decode cL_law 550 = .ok (.iconst 3, 1) := by decide +kernel
theorem dL_law_551 : decode cL_law 551 = .ok (.iadd, 1) := by decide +kernel
theorem dL_law_552 : decode cL_law 552 = .ok (.iaload, 1) := by decide +kernel
theorem dL_law_553 : decode cL_law 553 = .ok (.invokevirtual 52, 3) := by decide +kernel
theorem dL_law_556 : decode cL_law 556 = .ok (.if_icmp .eq 1258, 3) := by decide +kernel
theorem dL_law_559 : decode cL_law 559 = .ok (.iconst 0, 1) := by decide +kernel
theorem dL_law_560 : decode cL_law 560 = .ok (.ireturn, 1) := by decide +kernel
theorem dL_law_561 : decode cL_law 561 = .ok (.aload_n 1, 1) := by decide +kernel
theorem dL_law_562 : decode cL_law 562 = .ok (.aload_n 0, 1) := by decide +kernel
theorem dL_law_563 : decode cL_law 563 = .ok (.iload_n 3, 1) := by decide +kernel
theorem dL_law_564 : decode cL_law 564 = .ok (.iconst 1, 1) := by decide +kernel
theorem dL_law_565 : decode cL_law 565 = .ok (.iadd, 1) := by decide +kernel
theorem dL_law_566 : decode cL_law 566 = .ok (.iaload, 1) := by decide +kernel
theorem dL_law_567 : decode cL_law 567 = .ok (.aload_n 0, 1) := by decide +kernel
theorem dL_law_568 : decode cL_law 568 = .ok (.iload_n 3, 1) := by decide +kernel
theorem dL_law_569 : decode cL_law 569 = .ok (.iconst 2, 1) := by decide +kernel
theorem dL_law_570 : decode cL_law 570 = .ok (.iadd, 1) := by decide +kernel
theorem dL_law_571 : decode cL_law 571 = .ok (.iaload, 1) := by decide +kernel
theorem dL_law_572 : decode cL_law 572 = .ok (.invokevirtual 53, 3) := by decide +kernel
theorem dL_law_575 : decode cL_law 575 = .ok (.aload_n 2, 1) := by decide +kernel
theorem dL_law_576 : decode cL_law 576 = .ok (.aload_n 0, 1) := by decide +kernel
theorem dL_law_577 : decode cL_law 577 = .ok (.iload_n 3, 1) := by decide +kernel
theorem dL_law_578 : decode cL_law 578 = .ok (.iconst 1, 1) := by decide +kernel
theorem dL_law_579 : decode cL_law 579 = .ok (.iadd, 1) := by decide +kernel
theorem dL_law_580 : decode cL_law 580 = .ok (.iaload, 1) := by decide +kernel
theorem dL_law_581 : decode cL_law 581 = .ok (.aload_n 0, 1) := by decide +kernel
theorem dL_law_582 : decode cL_law 582 = .ok (.iload_n 3, 1) := by decide +kernel
theorem dL_law_583 : decode cL_law 583 = .ok (.iconst 2, 1) := by decide +kernel
theorem dL_law_584 : decode cL_law 584 = .ok (.iadd, 1) := by decide +kernel
theorem dL_law_585 : decode cL_law 585 = .ok (.iaload, 1) := by decide +kernel
theorem dL_law_586 : decode cL_law 586 = .ok (.invokevirtual 56, 3) := by decide +kernel
theorem dL_law_589 : decode cL_law 589 = .ok (.if_icmp .eq 1225, 3) := by decide +kernel
theorem dL_law_592 : decode cL_law 592 = .ok (.iconst 0, 1) := by decide +kernel
theorem dL_law_593 : decode cL_law 593 = .ok (.ireturn, 1) := by decide +kernel
theorem dL_law_594 : decode cL_law 594 = .ok (.aload_n 1, 1) := by decide +kernel
theorem dL_law_595 : decode cL_law 595 = .ok (.aload_n 0, 1) := by decide +kernel
theorem dL_law_596 : decode cL_law 596 = .ok (.iload_n 3, 1) := by decide +kernel
theorem dL_law_597 : decode cL_law 597 = .ok (.iconst 1, 1) := by decide +kernel
theorem dL_law_598 : decode cL_law 598 = .ok (.iadd, 1) := by decide +kernel
theorem dL_law_599 : decode cL_law 599 = .ok (.iaload, 1) := by decide +kernel
theorem dL_law_600 : decode cL_law 600 = .ok (.aload_n 0, 1) := by decide +kernel
theorem dL_law_601 : decode cL_law 601 = .ok (.iload_n 3, 1) := by decide +kernel
theorem dL_law_602 : decode cL_law 602 = .ok (.iconst 2, 1) := by decide +kernel
theorem dL_law_603 : decode cL_law 603 = .ok (.iadd, 1) := by decide +kernel
theorem dL_law_604 : decode cL_law 604 = .ok (.iaload, 1) := by decide +kernel
theorem dL_law_605 : decode cL_law 605 = .ok (.aload_n 0, 1) := by decide +kernel
theorem dL_law_606 : decode cL_law 606 = .ok (.iload_n 3, 1) := by decide +kernel
theorem dL_law_607 : decode cL_law 607 = .ok (.iconst 3, 1) := by decide +kernel
theorem dL_law_608 : decode cL_law 608 = .ok (.iadd, 1) := by decide +kernel
theorem dL_law_609 : decode cL_law 609 = .ok (.iaload, 1) := by decide +kernel
theorem dL_law_610 : decode cL_law 610 = .ok (.invokevirtual 57, 3) := by decide +kernel
theorem dL_law_613 : decode cL_law 613 = .ok (.aload_n 2, 1) := by decide +kernel
theorem dL_law_614 : decode cL_law 614 = .ok (.aload_n 0, 1) := by decide +kernel
theorem dL_law_615 : decode cL_law 615 = .ok (.iload_n 3, 1) := by decide +kernel
theorem dL_law_616 : decode cL_law 616 = .ok (.iconst 1, 1) := by decide +kernel
theorem dL_law_617 : decode cL_law 617 = .ok (.iadd, 1) := by decide +kernel
theorem dL_law_618 : decode cL_law 618 = .ok (.iaload, 1) := by decide +kernel
theorem dL_law_619 : decode cL_law 619 = .ok (.aload_n 0, 1) := by decide +kernel
theorem dL_law_620 : decode cL_law 620 = .ok (.iload_n 3, 1) := by decide +kernel
theorem dL_law_621 : decode cL_law 621 = .ok (.iconst 2, 1) := by decide +kernel
theorem dL_law_622 : decode cL_law 622 = .ok (.iadd, 1) := by decide +kernel
theorem dL_law_623 : decode cL_law 623 = .ok (.iaload, 1) := by decide +kernel
theorem dL_law_624 : decode cL_law 624 = .ok (.aload_n 0, 1) := by decide +kernel
theorem dL_law_625 : decode cL_law 625 = .ok (.iload_n 3, 1) := by decide +kernel
theorem dL_law_626 : decode cL_law 626 = .ok (.iconst 3, 1) := by decide +kernel
theorem dL_law_627 : decode cL_law 627 = .ok (.iadd, 1) := by decide +kernel
theorem dL_law_628 : decode cL_law 628 = .ok (.iaload, 1) := by decide +kernel
theorem dL_law_629 : decode cL_law 629 = .ok (.invokevirtual 60, 3) := by decide +kernel
theorem dL_law_632 : decode cL_law 632 = .ok (.if_icmp .eq 1182, 3) := by decide +kernel
theorem dL_law_635 : decode cL_law 635 = .ok (.iconst 0, 1) := by decide +kernel
theorem dL_law_636 : decode cL_law 636 = .ok (.ireturn, 1) := by decide +kernel
theorem dL_law_637 : decode cL_law 637 = .ok (.aload_n 1, 1) := by decide +kernel
theorem dL_law_638 : decode cL_law 638 = .ok (.aload_n 0, 1) := by decide +kernel
theorem dL_law_639 : decode cL_law 639 = .ok (.iload_n 3, 1) := by decide +kernel
theorem dL_law_640 : decode cL_law 640 = .ok (.iconst 1, 1) := by decide +kernel
theorem dL_law_641 : decode cL_law 641 = .ok (.iadd, 1) := by decide +kernel
theorem dL_law_642 : decode cL_law 642 = .ok (.iaload, 1) := by decide +kernel
theorem dL_law_643 : decode cL_law 643 = .ok (.aload_n 0, 1) := by decide +kernel
theorem dL_law_644 : decode cL_law 644 = .ok (.iload_n 3, 1) := by decide +kernel
theorem dL_law_645 : decode cL_law 645 = .ok (.iconst 2, 1) := by decide +kernel
theorem dL_law_646 : decode cL_law 646 = .ok (.iadd, 1) := by decide +kernel
theorem dL_law_647 : decode cL_law 647 = .ok (.iaload, 1) := by decide +kernel
theorem dL_law_648 : decode cL_law 648 = .ok (.invokevirtual 61, 3) := by decide +kernel
theorem dL_law_651 : decode cL_law 651 = .ok (.aload_n 2, 1) := by decide +kernel
theorem dL_law_652 : decode cL_law 652 = .ok (.aload_n 0, 1) := by decide +kernel
theorem dL_law_653 : decode cL_law 653 = .ok (.iload_n 3, 1) := by decide +kernel
theorem dL_law_654 : decode cL_law 654 = .ok (.iconst 1, 1) := by decide +kernel
theorem dL_law_655 : decode cL_law 655 = .ok (.iadd, 1) := by decide +kernel
theorem dL_law_656 : decode cL_law 656 = .ok (.iaload, 1) := by decide +kernel
theorem dL_law_657 : decode cL_law 657 = .ok (.aload_n 0, 1) := by decide +kernel
theorem dL_law_658 : decode cL_law 658 = .ok (.iload_n 3, 1) := by decide +kernel
theorem dL_law_659 : decode cL_law 659 = .ok (.iconst 2, 1) := by decide +kernel
theorem dL_law_660 : decode cL_law 660 = .ok (.iadd, 1) := by decide +kernel
theorem dL_law_661 : decode cL_law 661 = .ok (.iaload, 1) := by decide +kernel
theorem dL_law_662 : decode cL_law 662 = .ok (.invokevirtual 64, 3) := by decide +kernel
theorem dL_law_665 : decode cL_law 665 = .ok (.if_icmp .eq 1149, 3) := by decide +kernel
theorem dL_law_668 : decode cL_law 668 = .ok (.iconst 0, 1) := by decide +kernel
theorem dL_law_669 : decode cL_law 669 = .ok (.ireturn, 1) := by decide +kernel
theorem dL_law_670 : decode cL_law 670 = .ok (.aload_n 1, 1) := by decide +kernel
theorem dL_law_671 : decode cL_law 671 = .ok (.aload_n 0, 1) := by decide +kernel
theorem dL_law_672 : decode cL_law 672 = .ok (.iload_n 3, 1) := by decide +kernel
theorem dL_law_673 : decode cL_law 673 = .ok (.iconst 1, 1) := by decide +kernel
theorem dL_law_674 : decode cL_law 674 = .ok (.iadd, 1) := by decide +kernel
theorem dL_law_675 : decode cL_law 675 = .ok (.iaload, 1) := by decide +kernel
theorem dL_law_676 : decode cL_law 676 = .ok (.aload_n 0, 1) := by decide +kernel
theorem dL_law_677 : decode cL_law 677 = .ok (.iload_n 3, 1) := by decide +kernel
theorem dL_law_678 : decode cL_law 678 = .ok (.iconst 2, 1) := by decide +kernel
theorem dL_law_679 : decode cL_law 679 = .ok (.iadd, 1) := by decide +kernel
theorem dL_law_680 : decode cL_law 680 = .ok (.iaload, 1) := by decide +kernel
theorem dL_law_681 : decode cL_law 681 = .ok (.invokevirtual 65, 3) := by decide +kernel
theorem dL_law_684 : decode cL_law 684 = .ok (.aload_n 2, 1) := by decide +kernel
theorem dL_law_685 : decode cL_law 685 = .ok (.aload_n 0, 1) := by decide +kernel
theorem dL_law_686 : decode cL_law 686 = .ok (.iload_n 3, 1) := by decide +kernel
theorem dL_law_687 : decode cL_law 687 = .ok (.iconst 1, 1) := by decide +kernel
theorem dL_law_688 : decode cL_law 688 = .ok (.iadd, 1) := by decide +kernel
theorem dL_law_689 : decode cL_law 689 = .ok (.iaload, 1) := by decide +kernel
theorem dL_law_690 : decode cL_law 690 = .ok (.aload_n 0, 1) := by decide +kernel
theorem dL_law_691 : decode cL_law 691 = .ok (.iload_n 3, 1) := by decide +kernel
theorem dL_law_692 : decode cL_law 692 = .ok (.iconst 2, 1) := by decide +kernel
theorem dL_law_693 : decode cL_law 693 = .ok (.iadd, 1) := by decide +kernel
theorem dL_law_694 : decode cL_law 694 = .ok (.iaload, 1) := by decide +kernel
theorem dL_law_695 : decode cL_law 695 = .ok (.invokevirtual 68, 3) := by decide +kernel
theorem dL_law_698 : decode cL_law 698 = .ok (.if_icmp .eq 1116, 3) := by decide +kernel
theorem dL_law_701 : decode cL_law 701 = .ok (.iconst 0, 1) := by decide +kernel
theorem dL_law_702 : decode cL_law 702 = .ok (.ireturn, 1) := by decide +kernel
theorem dL_law_703 : decode cL_law 703 = .ok (.aload_n 1, 1) := by decide +kernel
theorem dL_law_704 : decode cL_law 704 = .ok (.aload_n 0, 1) := by decide +kernel
theorem dL_law_705 : decode cL_law 705 = .ok (.iload_n 3, 1) := by decide +kernel
theorem dL_law_706 : decode cL_law 706 = .ok (.iconst 1, 1) := by decide +kernel
theorem dL_law_707 : decode cL_law 707 = .ok (.iadd, 1) := by decide +kernel
theorem dL_law_708 : decode cL_law 708 = .ok (.iaload, 1) := by decide +kernel
theorem dL_law_709 : decode cL_law 709 = .ok (.invokevirtual 69, 3) := by decide +kernel
theorem dL_law_712 : decode cL_law 712 = .ok (.aload_n 2, 1) := by decide +kernel
theorem dL_law_713 : decode cL_law 713 = .ok (.aload_n 0, 1) := by decide +kernel
theorem dL_law_714 : decode cL_law 714 = .ok (.iload_n 3, 1) := by decide +kernel
theorem dL_law_715 : decode cL_law 715 = .ok (.iconst 1, 1) := by decide +kernel
theorem dL_law_716 : decode cL_law 716 = .ok (.iadd, 1) := by decide +kernel
theorem dL_law_717 : decode cL_law 717 = .ok (.iaload, 1) := by decide +kernel
theorem dL_law_718 : decode cL_law 718 = .ok (.invokevirtual 72, 3) := by decide +kernel
theorem dL_law_721 : decode cL_law 721 = .ok (.if_icmp .eq 1093, 3) := by decide +kernel
theorem dL_law_724 : decode cL_law 724 = .ok (.iconst 0, 1) := by decide +kernel
theorem dL_law_725 : decode cL_law 725 = .ok (.ireturn, 1) := by decide +kernel
theorem dL_law_726 : decode cL_law 726 = .ok (.aload_n 1, 1) := by decide +kernel
theorem dL_law_727 : decode cL_law 727 = .ok (.invokevirtual 73, 3) := by decide +kernel
theorem dL_law_730 : decode cL_law 730 = .ok (.aload_n 2, 1) := by decide +kernel
theorem dL_law_731 : decode cL_law 731 = .ok (.invokevirtual 77, 3) := by decide +kernel
theorem dL_law_734 : decode cL_law 734 = .ok (.if_icmp .eq 1080, 3) := by decide +kernel
theorem dL_law_737 : decode cL_law 737 = .ok (.iconst 0, 1) := by decide +kernel
theorem dL_law_738 : decode cL_law 738 = .ok (.ireturn, 1) := by decide +kernel
theorem dL_law_739 : decode cL_law 739 = .ok (.aload_n 1, 1) := by decide +kernel
theorem dL_law_740 : decode cL_law 740 = .ok (.aload_n 0, 1) := by decide +kernel
theorem dL_law_741 : decode cL_law 741 = .ok (.iload_n 3, 1) := by decide +kernel
theorem dL_law_742 : decode cL_law 742 = .ok (.iconst 1, 1) := by decide +kernel
theorem dL_law_743 : decode cL_law 743 = .ok (.iadd, 1) := by decide +kernel
theorem dL_law_744 : decode cL_law 744 = .ok (.iaload, 1) := by decide +kernel
theorem dL_law_745 : decode cL_law 745 = .ok (.aload_n 0, 1) := by decide +kernel
theorem dL_law_746 : decode cL_law 746 = .ok (.iload_n 3, 1) := by decide +kernel
theorem dL_law_747 : decode cL_law 747 = .ok (.iconst 2, 1) := by decide +kernel
theorem dL_law_748 : decode cL_law 748 = .ok (.iadd, 1) := by decide +kernel
theorem dL_law_749 : decode cL_law 749 = .ok (.iaload, 1) := by decide +kernel
theorem dL_law_750 : decode cL_law 750 = .ok (.invokevirtual 78, 3) := by decide +kernel
theorem dL_law_753 : decode cL_law 753 = .ok (.aload_n 2, 1) := by decide +kernel
theorem dL_law_754 : decode cL_law 754 = .ok (.aload_n 0, 1) := by decide +kernel
theorem dL_law_755 : decode cL_law 755 = .ok (.iload_n 3, 1) := by decide +kernel
theorem dL_law_756 : decode cL_law 756 = .ok (.iconst 1, 1) := by decide +kernel
theorem dL_law_757 : decode cL_law 757 = .ok (.iadd, 1) := by decide +kernel
theorem dL_law_758 : decode cL_law 758 = .ok (.iaload, 1) := by decide +kernel
theorem dL_law_759 : decode cL_law 759 = .ok (.aload_n 0, 1) := by decide +kernel
theorem dL_law_760 : decode cL_law 760 = .ok (.iload_n 3, 1) := by decide +kernel
theorem dL_law_761 : decode cL_law 761 = .ok (.iconst 2, 1) := by decide +kernel
theorem dL_law_762 : decode cL_law 762 = .ok (.iadd, 1) := by decide +kernel
theorem dL_law_763 : decode cL_law 763 = .ok (.iaload, 1) := by decide +kernel
theorem dL_law_764 : decode cL_law 764 = .ok (.invokevirtual 81, 3) := by decide +kernel
theorem dL_law_767 : decode cL_law 767 = .ok (.if_icmp .eq 1047, 3) := by decide +kernel
theorem dL_law_770 : decode cL_law 770 = .ok (.iconst 0, 1) := by decide +kernel
theorem dL_law_771 : decode cL_law 771 = .ok (.ireturn, 1) := by decide +kernel
theorem dL_law_772 : decode cL_law 772 = .ok (.aload_n 1, 1) := by decide +kernel
theorem dL_law_773 : decode cL_law 773 = .ok (.aload_n 0, 1) := by decide +kernel
theorem dL_law_774 : decode cL_law 774 = .ok (.iload_n 3, 1) := by decide +kernel
theorem dL_law_775 : decode cL_law 775 = .ok (.iconst 1, 1) := by decide +kernel
theorem dL_law_776 : decode cL_law 776 = .ok (.iadd, 1) := by decide +kernel
theorem dL_law_777 : decode cL_law 777 = .ok (.iaload, 1) := by decide +kernel
theorem dL_law_778 : decode cL_law 778 = .ok (.aload_n 0, 1) := by decide +kernel
theorem dL_law_779 : decode cL_law 779 = .ok (.iload_n 3, 1) := by decide +kernel
theorem dL_law_780 : decode cL_law 780 = .ok (.iconst 2, 1) := by decide +kernel
theorem dL_law_781 : decode cL_law 781 = .ok (.iadd, 1) := by decide +kernel
theorem dL_law_782 : decode cL_law 782 = .ok (.iaload, 1) := by decide +kernel
theorem dL_law_783 : decode cL_law 783 = .ok (.aload_n 0, 1) := by decide +kernel
theorem dL_law_784 : decode cL_law 784 = .ok (.iload_n 3, 1) := by decide +kernel
theorem dL_law_785 : decode cL_law 785 = .ok (.iconst 3, 1) := by decide +kernel
theorem dL_law_786 : decode cL_law 786 = .ok (.iadd, 1) := by decide +kernel
theorem dL_law_787 : decode cL_law 787 = .ok (.iaload, 1) := by decide +kernel
theorem dL_law_788 : decode cL_law 788 = .ok (.invokevirtual 82, 3) := by decide +kernel
theorem dL_law_791 : decode cL_law 791 = .ok (.aload_n 2, 1) := by decide +kernel
theorem dL_law_792 : decode cL_law 792 = .ok (.aload_n 0, 1) := by decide +kernel
theorem dL_law_793 : decode cL_law 793 = .ok (.iload_n 3, 1) := by decide +kernel
theorem dL_law_794 : decode cL_law 794 = .ok (.iconst 1, 1) := by decide +kernel
theorem dL_law_795 : decode cL_law 795 = .ok (.iadd, 1) := by decide +kernel
theorem dL_law_796 : decode cL_law 796 = .ok (.iaload, 1) := by decide +kernel
theorem dL_law_797 : decode cL_law 797 = .ok (.aload_n 0, 1) := by decide +kernel
theorem dL_law_798 : decode cL_law 798 = .ok (.iload_n 3, 1) := by decide +kernel
theorem dL_law_799 : decode cL_law 799 = .ok (.iconst 2, 1) := by decide +kernel
theorem dL_law_800 : decode cL_law 800 = .ok (.iadd, 1) := by decide +kernel
theorem dL_law_801 : decode cL_law 801 = .ok (.iaload, 1) := by decide +kernel
theorem dL_law_802 : decode cL_law 802 = .ok (.aload_n 0, 1) := by decide +kernel
theorem dL_law_803 : decode cL_law 803 = .ok (.iload_n 3, 1) := by decide +kernel
theorem dL_law_804 : decode cL_law 804 = .ok (.iconst 3, 1) := by decide +kernel
theorem dL_law_805 : decode cL_law 805 = .ok (.iadd, 1) := by decide +kernel
theorem dL_law_806 : decode cL_law 806 = .ok (.iaload, 1) := by decide +kernel
theorem dL_law_807 : decode cL_law 807 = .ok (.invokevirtual 85, 3) := by decide +kernel
theorem dL_law_810 : decode cL_law 810 = .ok (.if_icmp .eq 1004, 3) := by decide +kernel
theorem dL_law_813 : decode cL_law 813 = .ok (.iconst 0, 1) := by decide +kernel
theorem dL_law_814 : decode cL_law 814 = .ok (.ireturn, 1) := by decide +kernel
theorem dL_law_815 : decode cL_law 815 = .ok (.aload_n 1, 1) := by decide +kernel
theorem dL_law_816 : decode cL_law 816 = .ok (.aload_n 0, 1) := by decide +kernel
theorem dL_law_817 : decode cL_law 817 = .ok (.iload_n 3, 1) := by decide +kernel
theorem dL_law_818 : decode cL_law 818 = .ok (.iconst 1, 1) := by decide +kernel
theorem dL_law_819 : decode cL_law 819 = .ok (.iadd, 1) := by decide +kernel
theorem dL_law_820 : decode cL_law 820 = .ok (.iaload, 1) := by decide +kernel
theorem dL_law_821 : decode cL_law 821 = .ok (.invokevirtual 86, 3) := by decide +kernel
theorem dL_law_824 : decode cL_law 824 = .ok (.aload_n 2, 1) := by decide +kernel
theorem dL_law_825 : decode cL_law 825 = .ok (.aload_n 0, 1) := by decide +kernel
theorem dL_law_826 : decode cL_law 826 = .ok (.iload_n 3, 1) := by decide +kernel
theorem dL_law_827 : decode cL_law 827 = .ok (.iconst 1, 1) := by decide +kernel
theorem dL_law_828 : decode cL_law 828 = .ok (.iadd, 1) := by decide +kernel
theorem dL_law_829 : decode cL_law 829 = .ok (.iaload, 1) := by decide +kernel
theorem dL_law_830 : decode cL_law 830 = .ok (.invokevirtual 89, 3) := by decide +kernel
theorem dL_law_833 : decode cL_law 833 = .ok (.if_icmp .eq 981, 3) := by decide +kernel
theorem dL_law_836 : decode cL_law 836 = .ok (.iconst 0, 1) := by decide +kernel
theorem dL_law_837 : decode cL_law 837 = .ok (.ireturn, 1) := by decide +kernel
theorem dL_law_838 : decode cL_law 838 = .ok (.aload_n 1, 1) := by decide +kernel
theorem dL_law_839 : decode cL_law 839 = .ok (.aload_n 0, 1) := by decide +kernel
theorem dL_law_840 : decode cL_law 840 = .ok (.iload_n 3, 1) := by decide +kernel
theorem dL_law_841 : decode cL_law 841 = .ok (.iconst 1, 1) := by decide +kernel
theorem dL_law_842 : decode cL_law 842 = .ok (.iadd, 1) := by decide +kernel
theorem dL_law_843 : decode cL_law 843 = .ok (.iaload, 1) := by decide +kernel
theorem dL_law_844 : decode cL_law 844 = .ok (.aload_n 0, 1) := by decide +kernel
theorem dL_law_845 : decode cL_law 845 = .ok (.iload_n 3, 1) := by decide +kernel
theorem dL_law_846 : decode cL_law 846 = .ok (.iconst 2, 1) := by decide +kernel
theorem dL_law_847 : decode cL_law 847 = .ok (.iadd, 1) := by decide +kernel
theorem dL_law_848 : decode cL_law 848 = .ok (.iaload, 1) := by decide +kernel
theorem dL_law_849 : decode cL_law 849 = .ok (.aload_n 0, 1) := by decide +kernel
theorem dL_law_850 : decode cL_law 850 = .ok (.iload_n 3, 1) := by decide +kernel
theorem dL_law_851 : decode cL_law 851 = .ok (.iconst 3, 1) := by decide +kernel
theorem dL_law_852 : decode cL_law 852 = .ok (.iadd, 1) := by decide +kernel
theorem dL_law_853 : decode cL_law 853 = .ok (.iaload, 1) := by decide +kernel
theorem dL_law_854 : decode cL_law 854 = .ok (.aload_n 0, 1) := by decide +kernel
theorem dL_law_855 : decode cL_law 855 = .ok (.iload_n 3, 1) := by decide +kernel
theorem dL_law_856 : decode cL_law 856 = .ok (.iconst 4, 1) := by decide +kernel
theorem dL_law_857 : decode cL_law 857 = .ok (.iadd, 1) := by decide +kernel
theorem dL_law_858 : decode cL_law 858 = .ok (.iaload, 1) := by decide +kernel
theorem dL_law_859 : decode cL_law 859 = .ok (.invokevirtual 90, 3) := by decide +kernel
theorem dL_law_862 : decode cL_law 862 = .ok (.aload_n 2, 1) := by decide +kernel
theorem dL_law_863 : decode cL_law 863 = .ok (.aload_n 0, 1) := by decide +kernel
theorem dL_law_864 : decode cL_law 864 = .ok (.iload_n 3, 1) := by decide +kernel
theorem dL_law_865 : decode cL_law 865 = .ok (.iconst 1, 1) := by decide +kernel
theorem dL_law_866 : decode cL_law 866 = .ok (.iadd, 1) := by decide +kernel
theorem dL_law_867 : decode cL_law 867 = .ok (.iaload, 1) := by decide +kernel
theorem dL_law_868 : decode cL_law 868 = .ok (.aload_n 0, 1) := by decide +kernel
theorem dL_law_869 : decode cL_law 869 = .ok (.iload_n 3, 1) := by decide +kernel
theorem dL_law_870 : decode cL_law 870 = .ok (.iconst 2, 1) := by decide +kernel
theorem dL_law_871 : decode cL_law 871 = .ok (.iadd, 1) := by decide +kernel
theorem dL_law_872 : decode cL_law 872 = .ok (.iaload, 1) := by decide +kernel
theorem dL_law_873 : decode cL_law 873 = .ok (.aload_n 0, 1) := by decide +kernel
theorem dL_law_874 : decode cL_law 874 = .ok (.iload_n 3, 1) := by decide +kernel
theorem dL_law_875 : decode cL_law 875 = .ok (.iconst 3, 1) := by decide +kernel
theorem dL_law_876 : decode cL_law 876 = .ok (.iadd, 1) := by decide +kernel
theorem dL_law_877 : decode cL_law 877 = .ok (.iaload, 1) := by decide +kernel
theorem dL_law_878 : decode cL_law 878 = .ok (.aload_n 0, 1) := by decide +kernel
theorem dL_law_879 : decode cL_law 879 = .ok (.iload_n 3, 1) := by decide +kernel
theorem dL_law_880 : decode cL_law 880 = .ok (.iconst 4, 1) := by decide +kernel
theorem dL_law_881 : decode cL_law 881 = .ok (.iadd, 1) := by decide +kernel
theorem dL_law_882 : decode cL_law 882 = .ok (.iaload, 1) := by decide +kernel
theorem dL_law_883 : decode cL_law 883 = .ok (.invokevirtual 94, 3) := by decide +kernel
theorem dL_law_886 : decode cL_law 886 = .ok (.if_icmp .eq 928, 3) := by decide +kernel
theorem dL_law_889 : decode cL_law 889 = .ok (.iconst 0, 1) := by decide +kernel
theorem dL_law_890 : decode cL_law 890 = .ok (.ireturn, 1) := by decide +kernel
theorem dL_law_891 : decode cL_law 891 = .ok (.aload_n 1, 1) := by decide +kernel
theorem dL_law_892 : decode cL_law 892 = .ok (.aload_n 0, 1) := by decide +kernel
theorem dL_law_893 : decode cL_law 893 = .ok (.iload_n 3, 1) := by decide +kernel
theorem dL_law_894 : decode cL_law 894 = .ok (.iconst 1, 1) := by decide +kernel
theorem dL_law_895 : decode cL_law 895 = .ok (.iadd, 1) := by decide +kernel
theorem dL_law_896 : decode cL_law 896 = .ok (.iaload, 1) := by decide +kernel
theorem dL_law_897 : decode cL_law 897 = .ok (.aload_n 0, 1) := by decide +kernel
theorem dL_law_898 : decode cL_law 898 = .ok (.iload_n 3, 1) := by decide +kernel
theorem dL_law_899 : decode cL_law 899 = .ok (.iconst 2, 1) := by decide +kernel
theorem dL_law_900 : decode cL_law 900 = .ok (.iadd, 1) := by decide +kernel
theorem dL_law_901 : decode cL_law 901 = .ok (.iaload, 1) := by decide +kernel
theorem dL_law_902 : decode cL_law 902 = .ok (.aload_n 0, 1) := by decide +kernel
theorem dL_law_903 : decode cL_law 903 = .ok (.iload_n 3, 1) := by decide +kernel
theorem dL_law_904 : decode cL_law 904 = .ok (.iconst 3, 1) := by decide +kernel
theorem dL_law_905 : decode cL_law 905 = .ok (.iadd, 1) := by decide +kernel
theorem dL_law_906 : decode cL_law 906 = .ok (.iaload, 1) := by decide +kernel
theorem dL_law_907 : decode cL_law 907 = .ok (.aload_n 0, 1) := by decide +kernel
theorem dL_law_908 : decode cL_law 908 = .ok (.iload_n 3, 1) := by decide +kernel
theorem dL_law_909 : decode cL_law 909 = .ok (.iconst 4, 1) := by decide +kernel
theorem dL_law_910 : decode cL_law 910 = .ok (.iadd, 1) := by decide +kernel
theorem dL_law_911 : decode cL_law 911 = .ok (.iaload, 1) := by decide +kernel
theorem dL_law_912 : decode cL_law 912 = .ok (.aload_n 0, 1) := by decide +kernel
theorem dL_law_913 : decode cL_law 913 = .ok (.iload_n 3, 1) := by decide +kernel
theorem dL_law_914 : decode cL_law 914 = .ok (.iconst 5, 1) := by decide +kernel
theorem dL_law_915 : decode cL_law 915 = .ok (.iadd, 1) := by decide +kernel
theorem dL_law_916 : decode cL_law 916 = .ok (.iaload, 1) := by decide +kernel
theorem dL_law_917 : decode cL_law 917 = .ok (.invokevirtual 95, 3) := by decide +kernel
theorem dL_law_920 : decode cL_law 920 = .ok (.aload_n 2, 1) := by decide +kernel
theorem dL_law_921 : decode cL_law 921 = .ok (.aload_n 0, 1) := by decide +kernel
theorem dL_law_922 : decode cL_law 922 = .ok (.iload_n 3, 1) := by decide +kernel
theorem dL_law_923 : decode cL_law 923 = .ok (.iconst 1, 1) := by decide +kernel
theorem dL_law_924 : decode cL_law 924 = .ok (.iadd, 1) := by decide +kernel
theorem dL_law_925 : decode cL_law 925 = .ok (.iaload, 1) := by decide +kernel
theorem dL_law_926 : decode cL_law 926 = .ok (.aload_n 0, 1) := by decide +kernel
theorem dL_law_927 : decode cL_law 927 = .ok (.iload_n 3, 1) := by decide +kernel
theorem dL_law_928 : decode cL_law 928 = .ok (.iconst 2, 1) := by decide +kernel
theorem dL_law_929 : decode cL_law 929 = .ok (.iadd, 1) := by decide +kernel
theorem dL_law_930 : decode cL_law 930 = .ok (.iaload, 1) := by decide +kernel
theorem dL_law_931 : decode cL_law 931 = .ok (.aload_n 0, 1) := by decide +kernel
theorem dL_law_932 : decode cL_law 932 = .ok (.iload_n 3, 1) := by decide +kernel
theorem dL_law_933 : decode cL_law 933 = .ok (.iconst 3, 1) := by decide +kernel
theorem dL_law_934 : decode cL_law 934 = .ok (.iadd, 1) := by decide +kernel
theorem dL_law_935 : decode cL_law 935 = .ok (.iaload, 1) := by decide +kernel
theorem dL_law_936 : decode cL_law 936 = .ok (.aload_n 0, 1) := by decide +kernel
theorem dL_law_937 : decode cL_law 937 = .ok (.iload_n 3, 1) := by decide +kernel
theorem dL_law_938 : decode cL_law 938 = .ok (.iconst 4, 1) := by decide +kernel
theorem dL_law_939 : decode cL_law 939 = .ok (.iadd, 1) := by decide +kernel
theorem dL_law_940 : decode cL_law 940 = .ok (.iaload, 1) := by decide +kernel
theorem dL_law_941 : decode cL_law 941 = .ok (.aload_n 0, 1) := by decide +kernel
theorem dL_law_942 : decode cL_law 942 = .ok (.iload_n 3, 1) := by decide +kernel
theorem dL_law_943 : decode cL_law 943 = .ok (.iconst 5, 1) := by decide +kernel
theorem dL_law_944 : decode cL_law 944 = .ok (.iadd, 1) := by decide +kernel
theorem dL_law_945 : decode cL_law 945 = .ok (.iaload, 1) := by decide +kernel
theorem dL_law_946 : decode cL_law 946 = .ok (.invokevirtual 98, 3) := by decide +kernel
theorem dL_law_949 : decode cL_law 949 = .ok (.if_icmp .eq 865, 3) := by decide +kernel
theorem dL_law_952 : decode cL_law 952 = .ok (.iconst 0, 1) := by decide +kernel
theorem dL_law_953 : decode cL_law 953 = .ok (.ireturn, 1) := by decide +kernel
theorem dL_law_954 : decode cL_law 954 = .ok (.aload_n 1, 1) := by decide +kernel
theorem dL_law_955 : decode cL_law 955 = .ok (.aload_n 0, 1) := by decide +kernel
theorem dL_law_956 : decode cL_law 956 = .ok (.iload_n 3, 1) := by decide +kernel
theorem dL_law_957 : decode cL_law 957 = .ok (.iconst 1, 1) := by decide +kernel
theorem dL_law_958 : decode cL_law 958 = .ok (.iadd, 1) := by decide +kernel
theorem dL_law_959 : decode cL_law 959 = .ok (.iaload, 1) := by decide +kernel
theorem dL_law_960 : decode cL_law 960 = .ok (.aload_n 0, 1) := by decide +kernel
theorem dL_law_961 : decode cL_law 961 = .ok (.iload_n 3, 1) := by decide +kernel
theorem dL_law_962 : decode cL_law 962 = .ok (.iconst 2, 1) := by decide +kernel
theorem dL_law_963 : decode cL_law 963 = .ok (.iadd, 1) := by decide +kernel
theorem dL_law_964 : decode cL_law 964 = .ok (.iaload, 1) := by decide +kernel
theorem dL_law_965 : decode cL_law 965 = .ok (.aload_n 0, 1) := by decide +kernel
theorem dL_law_966 : decode cL_law 966 = .ok (.iload_n 3, 1) := by decide +kernel
theorem dL_law_967 : decode cL_law 967 = .ok (.iconst 3, 1) := by decide +kernel
theorem dL_law_968 : decode cL_law 968 = .ok (.iadd, 1) := by decide +kernel
theorem dL_law_969 : decode cL_law 969 = .ok (.iaload, 1) := by decide +kernel
theorem dL_law_970 : decode cL_law 970 = .ok (.aload_n 0, 1) := by decide +kernel
theorem dL_law_971 : decode cL_law 971 = .ok (.iload_n 3, 1) := by decide +kernel
theorem dL_law_972 : decode cL_law 972 = .ok (.iconst 4, 1) := by decide +kernel
theorem dL_law_973 : decode cL_law 973 = .ok (.iadd, 1) := by decide +kernel
theorem dL_law_974 : decode cL_law 974 = .ok (.iaload, 1) := by decide +kernel
theorem dL_law_975 : decode cL_law 975 = .ok (.invokevirtual 99, 3) := by decide +kernel
theorem dL_law_978 : decode cL_law 978 = .ok (.aload_n 2, 1) := by decide +kernel
theorem dL_law_979 : decode cL_law 979 = .ok (.aload_n 0, 1) := by decide +kernel
theorem dL_law_980 : decode cL_law 980 = .ok (.iload_n 3, 1) := by decide +kernel
theorem dL_law_981 : decode cL_law 981 = .ok (.iconst 1, 1) := by decide +kernel
theorem dL_law_982 : decode cL_law 982 = .ok (.iadd, 1) := by decide +kernel
theorem dL_law_983 : decode cL_law 983 = .ok (.iaload, 1) := by decide +kernel
theorem dL_law_984 : decode cL_law 984 = .ok (.aload_n 0, 1) := by decide +kernel
theorem dL_law_985 : decode cL_law 985 = .ok (.iload_n 3, 1) := by decide +kernel
theorem dL_law_986 : decode cL_law 986 = .ok (.iconst 2, 1) := by decide +kernel
theorem dL_law_987 : decode cL_law 987 = .ok (.iadd, 1) := by decide +kernel
theorem dL_law_988 : decode cL_law 988 = .ok (.iaload, 1) := by decide +kernel
theorem dL_law_989 : decode cL_law 989 = .ok (.aload_n 0, 1) := by decide +kernel
theorem dL_law_990 : decode cL_law 990 = .ok (.iload_n 3, 1) := by decide +kernel
theorem dL_law_991 : decode cL_law 991 = .ok (.iconst 3, 1) := by decide +kernel
theorem dL_law_992 : decode cL_law 992 = .ok (.iadd, 1) := by decide +kernel
theorem dL_law_993 : decode cL_law 993 = .ok (.iaload, 1) := by decide +kernel
theorem dL_law_994 : decode cL_law 994 = .ok (.aload_n 0, 1) := by decide +kernel
theorem dL_law_995 : decode cL_law 995 = .ok (.iload_n 3, 1) := by decide +kernel
theorem dL_law_996 : decode cL_law 996 = .ok (.iconst 4, 1) := by decide +kernel
theorem dL_law_997 : decode cL_law 997 = .ok (.iadd, 1) := by decide +kernel
theorem dL_law_998 : decode cL_law 998 = .ok (.iaload, 1) := by decide +kernel
theorem dL_law_999 : decode cL_law 999 = .ok (.invokevirtual 102, 3) := by decide +kernel
theorem dL_law_1002 : decode cL_law 1002 = .ok (.if_icmp .eq 812, 3) := by decide +kernel
theorem dL_law_1005 : decode cL_law 1005 = .ok (.iconst 0, 1) := by decide +kernel
theorem dL_law_1006 : decode cL_law 1006 = .ok (.ireturn, 1) := by decide +kernel
theorem dL_law_1007 : decode cL_law 1007 = .ok (.aload_n 1, 1) := by decide +kernel
theorem dL_law_1008 : decode cL_law 1008 = .ok (.aload_n 0, 1) := by decide +kernel
theorem dL_law_1009 : decode cL_law 1009 = .ok (.iload_n 3, 1) := by decide +kernel
theorem dL_law_1010 : decode cL_law 1010 = .ok (.iconst 1, 1) := by decide +kernel
theorem dL_law_1011 : decode cL_law 1011 = .ok (.iadd, 1) := by decide +kernel
theorem dL_law_1012 : decode cL_law 1012 = .ok (.iaload, 1) := by decide +kernel
theorem dL_law_1013 : decode cL_law 1013 = .ok (.aload_n 0, 1) := by decide +kernel
theorem dL_law_1014 : decode cL_law 1014 = .ok (.iload_n 3, 1) := by decide +kernel
theorem dL_law_1015 : decode cL_law 1015 = .ok (.iconst 2, 1) := by decide +kernel
theorem dL_law_1016 : decode cL_law 1016 = .ok (.iadd, 1) := by decide +kernel
theorem dL_law_1017 : decode cL_law 1017 = .ok (.iaload, 1) := by decide +kernel
theorem dL_law_1018 : decode cL_law 1018 = .ok (.aload_n 0, 1) := by decide +kernel
theorem dL_law_1019 : decode cL_law 1019 = .ok (.iload_n 3, 1) := by decide +kernel
theorem dL_law_1020 : decode cL_law 1020 = .ok (.iconst 3, 1) := by decide +kernel
theorem dL_law_1021 : decode cL_law 1021 = .ok (.iadd, 1) := by decide +kernel
theorem dL_law_1022 : decode cL_law 1022 = .ok (.iaload, 1) := by decide +kernel
theorem dL_law_1023 : decode cL_law 1023 = .ok (.invokevirtual 103, 3) := by decide +kernel
theorem dL_law_1026 : decode cL_law 1026 = .ok (.aload_n 2, 1) := by decide +kernel
theorem dL_law_1027 : decode cL_law 1027 = .ok (.aload_n 0, 1) := by decide +kernel
theorem dL_law_1028 : decode cL_law 1028 = .ok (.iload_n 3, 1) := by decide +kernel
theorem dL_law_1029 : decode cL_law 1029 = .ok (.iconst 1, 1) := by decide +kernel
theorem dL_law_1030 : decode cL_law 1030 = .ok (.iadd, 1) := by decide +kernel
theorem dL_law_1031 : decode cL_law 1031 = .ok (.iaload, 1) := by decide +kernel
theorem dL_law_1032 : decode cL_law 1032 = .ok (.aload_n 0, 1) := by decide +kernel
theorem dL_law_1033 : decode cL_law 1033 = .ok (.iload_n 3, 1) := by decide +kernel
theorem dL_law_1034 : decode cL_law 1034 = .ok (.iconst 2, 1) := by decide +kernel
theorem dL_law_1035 : decode cL_law 1035 = .ok (.iadd, 1) := by decide +kernel
theorem dL_law_1036 : decode cL_law 1036 = .ok (.iaload, 1) := by decide +kernel
theorem dL_law_1037 : decode cL_law 1037 = .ok (.aload_n 0, 1) := by decide +kernel
theorem dL_law_1038 : decode cL_law 1038 = .ok (.iload_n 3, 1) := by decide +kernel
theorem dL_law_1039 : decode cL_law 1039 = .ok (.iconst 3, 1) := by decide +kernel
theorem dL_law_1040 : decode cL_law 1040 = .ok (.iadd, 1) := by decide +kernel
theorem dL_law_1041 : decode cL_law 1041 = .ok (.iaload, 1) := by decide +kernel
theorem dL_law_1042 : decode cL_law 1042 = .ok (.invokevirtual 106, 3) := by decide +kernel
theorem dL_law_1045 : decode cL_law 1045 = .ok (.if_icmp .eq 769, 3) := by decide +kernel
theorem dL_law_1048 : decode cL_law 1048 = .ok (.iconst 0, 1) := by decide +kernel
theorem dL_law_1049 : decode cL_law 1049 = .ok (.ireturn, 1) := by decide +kernel
theorem dL_law_1050 : decode cL_law 1050 = .ok (.aload_n 1, 1) := by decide +kernel
theorem dL_law_1051 : decode cL_law 1051 = .ok (.aload_n 0, 1) := by decide +kernel
theorem dL_law_1052 : decode cL_law 1052 = .ok (.iload_n 3, 1) := by decide +kernel
theorem dL_law_1053 : decode cL_law 1053 = .ok (.iconst 1, 1) := by decide +kernel
theorem dL_law_1054 : decode cL_law 1054 = .ok (.iadd, 1) := by decide +kernel
theorem dL_law_1055 : decode cL_law 1055 = .ok (.iaload, 1) := by decide +kernel
theorem dL_law_1056 : decode cL_law 1056 = .ok (.aload_n 0, 1) := by decide +kernel
theorem dL_law_1057 : decode cL_law 1057 = .ok (.iload_n 3, 1) := by decide +kernel
theorem dL_law_1058 : decode cL_law 1058 = .ok (.iconst 2, 1) := by decide +kernel
theorem dL_law_1059 : decode cL_law 1059 = .ok (.iadd, 1) := by decide +kernel
theorem dL_law_1060 : decode cL_law 1060 = .ok (.iaload, 1) := by decide +kernel
theorem dL_law_1061 : decode cL_law 1061 = .ok (.aload_n 0, 1) := by decide +kernel
theorem dL_law_1062 : decode cL_law 1062 = .ok (.iload_n 3, 1) := by decide +kernel
theorem dL_law_1063 : decode cL_law 1063 = .ok (.iconst 3, 1) := by decide +kernel
theorem dL_law_1064 : decode cL_law 1064 = .ok (.iadd, 1) := by decide +kernel
theorem dL_law_1065 : decode cL_law 1065 = .ok (.iaload, 1) := by decide +kernel
theorem dL_law_1066 : decode cL_law 1066 = .ok (.invokevirtual 107, 3) := by decide +kernel
theorem dL_law_1069 : decode cL_law 1069 = .ok (.aload_n 2, 1) := by decide +kernel
theorem dL_law_1070 : decode cL_law 1070 = .ok (.aload_n 0, 1) := by decide +kernel
theorem dL_law_1071 : decode cL_law 1071 = .ok (.iload_n 3, 1) := by decide +kernel
theorem dL_law_1072 : decode cL_law 1072 = .ok (.iconst 1, 1) := by decide +kernel
theorem dL_law_1073 : decode cL_law 1073 = .ok (.iadd, 1) := by decide +kernel
theorem dL_law_1074 : decode cL_law 1074 = .ok (.iaload, 1) := by decide +kernel
theorem dL_law_1075 : decode cL_law 1075 = .ok (.aload_n 0, 1) := by decide +kernel
theorem dL_law_1076 : decode cL_law 1076 = .ok (.iload_n 3, 1) := by decide +kernel
theorem dL_law_1077 : decode cL_law 1077 = .ok (.iconst 2, 1) := by decide +kernel
theorem dL_law_1078 : decode cL_law 1078 = .ok (.iadd, 1) := by decide +kernel
theorem dL_law_1079 : decode cL_law 1079 = .ok (.iaload, 1) := by decide +kernel
theorem dL_law_1080 : decode cL_law 1080 = .ok (.aload_n 0, 1) := by decide +kernel
theorem dL_law_1081 : decode cL_law 1081 = .ok (.iload_n 3, 1) := by decide +kernel
theorem dL_law_1082 : decode cL_law 1082 = .ok (.iconst 3, 1) := by decide +kernel
theorem dL_law_1083 : decode cL_law 1083 = .ok (.iadd, 1) := by decide +kernel
theorem dL_law_1084 : decode cL_law 1084 = .ok (.iaload, 1) := by decide +kernel
theorem dL_law_1085 : decode cL_law 1085 = .ok (.invokevirtual 110, 3) := by decide +kernel
theorem dL_law_1088 : decode cL_law 1088 = .ok (.if_icmp .eq 726, 3) := by decide +kernel
theorem dL_law_1091 : decode cL_law 1091 = .ok (.iconst 0, 1) := by decide +kernel
theorem dL_law_1092 : decode cL_law 1092 = .ok (.ireturn, 1) := by decide +kernel
theorem dL_law_1093 : decode cL_law 1093 = .ok (.aload_n 1, 1) := by decide +kernel
theorem dL_law_1094 : decode cL_law 1094 = .ok (.aload_n 0, 1) := by decide +kernel
theorem dL_law_1095 : decode cL_law 1095 = .ok (.iload_n 3, 1) := by decide +kernel
theorem dL_law_1096 : decode cL_law 1096 = .ok (.iconst 1, 1) := by decide +kernel
theorem dL_law_1097 : decode cL_law 1097 = .ok (.iadd, 1) := by decide +kernel
theorem dL_law_1098 : decode cL_law 1098 = .ok (.iaload, 1) := by decide +kernel
theorem dL_law_1099 : decode cL_law 1099 = .ok (.aload_n 0, 1) := by decide +kernel
theorem dL_law_1100 : decode cL_law 1100 = .ok (.iload_n 3, 1) := by decide +kernel
theorem dL_law_1101 : decode cL_law 1101 = .ok (.iconst 2, 1) := by decide +kernel
theorem dL_law_1102 : decode cL_law 1102 = .ok (.iadd, 1) := by decide +kernel
theorem dL_law_1103 : decode cL_law 1103 = .ok (.iaload, 1) := by decide +kernel
theorem dL_law_1104 : decode cL_law 1104 = .ok (.aload_n 0, 1) := by decide +kernel
theorem dL_law_1105 : decode cL_law 1105 = .ok (.iload_n 3, 1) := by decide +kernel
theorem dL_law_1106 : decode cL_law 1106 = .ok (.iconst 3, 1) := by decide +kernel
theorem dL_law_1107 : decode cL_law 1107 = .ok (.iadd, 1) := by decide +kernel
theorem dL_law_1108 : decode cL_law 1108 = .ok (.iaload, 1) := by decide +kernel
theorem dL_law_1109 : decode cL_law 1109 = .ok (.aload_n 0, 1) := by decide +kernel
theorem dL_law_1110 : decode cL_law 1110 = .ok (.iload_n 3, 1) := by decide +kernel
theorem dL_law_1111 : decode cL_law 1111 = .ok (.iconst 4, 1) := by decide +kernel
theorem dL_law_1112 : decode cL_law 1112 = .ok (.iadd, 1) := by decide +kernel
theorem dL_law_1113 : decode cL_law 1113 = .ok (.iaload, 1) := by decide +kernel
theorem dL_law_1114 : decode cL_law 1114 = .ok (.invokevirtual 111, 3) := by decide +kernel
theorem dL_law_1117 : decode cL_law 1117 = .ok (.aload_n 2, 1) := by decide +kernel
theorem dL_law_1118 : decode cL_law 1118 = .ok (.aload_n 0, 1) := by decide +kernel
theorem dL_law_1119 : decode cL_law 1119 = .ok (.iload_n 3, 1) := by decide +kernel
theorem dL_law_1120 : decode cL_law 1120 = .ok (.iconst 1, 1) := by decide +kernel
theorem dL_law_1121 : decode cL_law 1121 = .ok (.iadd, 1) := by decide +kernel
theorem dL_law_1122 : decode cL_law 1122 = .ok (.iaload, 1) := by decide +kernel
theorem dL_law_1123 : decode cL_law 1123 = .ok (.aload_n 0, 1) := by decide +kernel
theorem dL_law_1124 : decode cL_law 1124 = .ok (.iload_n 3, 1) := by decide +kernel
theorem dL_law_1125 : decode cL_law 1125 = .ok (.iconst 2, 1) := by decide +kernel
theorem dL_law_1126 : decode cL_law 1126 = .ok (.iadd, 1) := by decide +kernel
theorem dL_law_1127 : decode cL_law 1127 = .ok (.iaload, 1) := by decide +kernel
theorem dL_law_1128 : decode cL_law 1128 = .ok (.aload_n 0, 1) := by decide +kernel
theorem dL_law_1129 : decode cL_law 1129 = .ok (.iload_n 3, 1) := by decide +kernel
theorem dL_law_1130 : decode cL_law 1130 = .ok (.iconst 3, 1) := by decide +kernel
theorem dL_law_1131 : decode cL_law 1131 = .ok (.iadd, 1) := by decide +kernel
theorem dL_law_1132 : decode cL_law 1132 = .ok (.iaload, 1) := by decide +kernel
theorem dL_law_1133 : decode cL_law 1133 = .ok (.aload_n 0, 1) := by decide +kernel
theorem dL_law_1134 : decode cL_law 1134 = .ok (.iload_n 3, 1) := by decide +kernel
theorem dL_law_1135 : decode cL_law 1135 = .ok (.iconst 4, 1) := by decide +kernel
theorem dL_law_1136 : decode cL_law 1136 = .ok (.iadd, 1) := by decide +kernel
theorem dL_law_1137 : decode cL_law 1137 = .ok (.iaload, 1) := by decide +kernel
theorem dL_law_1138 : decode cL_law 1138 = .ok (.invokevirtual 114, 3) := by decide +kernel
theorem dL_law_1141 : decode cL_law 1141 = .ok (.if_icmp .eq 673, 3) := by decide +kernel
theorem dL_law_1144 : decode cL_law 1144 = .ok (.iconst 0, 1) := by decide +kernel
theorem dL_law_1145 : decode cL_law 1145 = .ok (.ireturn, 1) := by decide +kernel
theorem dL_law_1146 : decode cL_law 1146 = .ok (.aload_n 1, 1) := by decide +kernel
theorem dL_law_1147 : decode cL_law 1147 = .ok (.aload_n 0, 1) := by decide +kernel
theorem dL_law_1148 : decode cL_law 1148 = .ok (.iload_n 3, 1) := by decide +kernel
theorem dL_law_1149 : decode cL_law 1149 = .ok (.iconst 1, 1) := by decide +kernel
theorem dL_law_1150 : decode cL_law 1150 = .ok (.iadd, 1) := by decide +kernel
theorem dL_law_1151 : decode cL_law 1151 = .ok (.iaload, 1) := by decide +kernel
theorem dL_law_1152 : decode cL_law 1152 = .ok (.aload_n 0, 1) := by decide +kernel
theorem dL_law_1153 : decode cL_law 1153 = .ok (.iload_n 3, 1) := by decide +kernel
theorem dL_law_1154 : decode cL_law 1154 = .ok (.iconst 2, 1) := by decide +kernel
theorem dL_law_1155 : decode cL_law 1155 = .ok (.iadd, 1) := by decide +kernel
theorem dL_law_1156 : decode cL_law 1156 = .ok (.iaload, 1) := by decide +kernel
theorem dL_law_1157 : decode cL_law 1157 = .ok (.aload_n 0, 1) := by decide +kernel
theorem dL_law_1158 : decode cL_law 1158 = .ok (.iload_n 3, 1) := by decide +kernel
theorem dL_law_1159 : decode cL_law 1159 = .ok (.iconst 3, 1) := by decide +kernel
theorem dL_law_1160 : decode cL_law 1160 = .ok (.iadd, 1) := by decide +kernel
theorem dL_law_1161 : decode cL_law 1161 = .ok (.iaload, 1) := by decide +kernel
theorem dL_law_1162 : decode cL_law 1162 = .ok (.invokevirtual 115, 3) := by decide +kernel
theorem dL_law_1165 : decode cL_law 1165 = .ok (.aload_n 2, 1) := by decide +kernel
theorem dL_law_1166 : decode cL_law 1166 = .ok (.aload_n 0, 1) := by decide +kernel
theorem dL_law_1167 : decode cL_law 1167 = .ok (.iload_n 3, 1) := by decide +kernel
theorem dL_law_1168 : decode cL_law 1168 = .ok (.iconst 1, 1) := by decide +kernel
theorem dL_law_1169 : decode cL_law 1169 = .ok (.iadd, 1) := by decide +kernel
theorem dL_law_1170 : decode cL_law 1170 = .ok (.iaload, 1) := by decide +kernel
theorem dL_law_1171 : decode cL_law 1171 = .ok (.aload_n 0, 1) := by decide +kernel
theorem dL_law_1172 : decode cL_law 1172 = .ok (.iload_n 3, 1) := by decide +kernel
theorem dL_law_1173 : decode cL_law 1173 = .ok (.iconst 2, 1) := by decide +kernel
theorem dL_law_1174 : decode cL_law 1174 = .ok (.iadd, 1) := by decide +kernel
theorem dL_law_1175 : decode cL_law 1175 = .ok (.iaload, 1) := by decide +kernel
theorem dL_law_1176 : decode cL_law 1176 = .ok (.aload_n 0, 1) := by decide +kernel
theorem dL_law_1177 : decode cL_law 1177 = .ok (.iload_n 3, 1) := by decide +kernel
theorem dL_law_1178 : decode cL_law 1178 = .ok (.iconst 3, 1) := by decide +kernel
theorem dL_law_1179 : decode cL_law 1179 = .ok (.iadd, 1) := by decide +kernel
theorem dL_law_1180 : decode cL_law 1180 = .ok (.iaload, 1) := by decide +kernel
theorem dL_law_1181 : decode cL_law 1181 = .ok (.invokevirtual 118, 3) := by decide +kernel
theorem dL_law_1184 : decode cL_law 1184 = .ok (.if_icmp .eq 630, 3) := by decide +kernel
theorem dL_law_1187 : decode cL_law 1187 = .ok (.iconst 0, 1) := by decide +kernel
theorem dL_law_1188 : decode cL_law 1188 = .ok (.ireturn, 1) := by decide +kernel
theorem dL_law_1189 : decode cL_law 1189 = .ok (.aload_n 1, 1) := by decide +kernel
theorem dL_law_1190 : decode cL_law 1190 = .ok (.aload_n 0, 1) := by decide +kernel
theorem dL_law_1191 : decode cL_law 1191 = .ok (.iload_n 3, 1) := by decide +kernel
theorem dL_law_1192 : decode cL_law 1192 = .ok (.iconst 1, 1) := by decide +kernel
theorem dL_law_1193 : decode cL_law 1193 = .ok (.iadd, 1) := by decide +kernel
theorem dL_law_1194 : decode cL_law 1194 = .ok (.iaload, 1) := by decide +kernel
theorem dL_law_1195 : decode cL_law 1195 = .ok (.aload_n 0, 1) := by decide +kernel
theorem dL_law_1196 : decode cL_law 1196 = .ok (.iload_n 3, 1) := by decide +kernel
theorem dL_law_1197 : decode cL_law 1197 = .ok (.iconst 2, 1) := by decide +kernel
theorem dL_law_1198 : decode cL_law 1198 = .ok (.iadd, 1) := by decide +kernel
theorem dL_law_1199 : decode cL_law 1199 = .ok (.iaload, 1) := by decide +kernel
theorem dL_law_1200 : decode cL_law 1200 = .ok (.aload_n 0, 1) := by decide +kernel
theorem dL_law_1201 : decode cL_law 1201 = .ok (.iload_n 3, 1) := by decide +kernel
theorem dL_law_1202 : decode cL_law 1202 = .ok (.iconst 3, 1) := by decide +kernel
theorem dL_law_1203 : decode cL_law 1203 = .ok (.iadd, 1) := by decide +kernel
theorem dL_law_1204 : decode cL_law 1204 = .ok (.iaload, 1) := by decide +kernel
theorem dL_law_1205 : decode cL_law 1205 = .ok (.aload_n 0, 1) := by decide +kernel
theorem dL_law_1206 : decode cL_law 1206 = .ok (.iload_n 3, 1) := by decide +kernel
theorem dL_law_1207 : decode cL_law 1207 = .ok (.iconst 4, 1) := by decide +kernel
theorem dL_law_1208 : decode cL_law 1208 = .ok (.iadd, 1) := by decide +kernel
theorem dL_law_1209 : decode cL_law 1209 = .ok (.iaload, 1) := by decide +kernel
theorem dL_law_1210 : decode cL_law 1210 = .ok (.aload_n 0, 1) := by decide +kernel
theorem dL_law_1211 : decode cL_law 1211 = .ok (.iload_n 3, 1) := by decide +kernel
theorem dL_law_1212 : decode cL_law 1212 = .ok (.iconst 5, 1) := by decide +kernel
theorem dL_law_1213 : decode cL_law 1213 = .ok (.iadd, 1) := by decide +kernel
theorem dL_law_1214 : decode cL_law 1214 = .ok (.iaload, 1) := by decide +kernel
theorem dL_law_1215 : decode cL_law 1215 = .ok (.invokevirtual 119, 3) := by decide +kernel
theorem dL_law_1218 : decode cL_law 1218 = .ok (.aload_n 2, 1) := by decide +kernel
theorem dL_law_1219 : decode cL_law 1219 = .ok (.aload_n 0, 1) := by decide +kernel
theorem dL_law_1220 : decode cL_law 1220 = .ok (.iload_n 3, 1) := by decide +kernel
theorem dL_law_1221 : decode cL_law 1221 = .ok (.iconst 1, 1) := by decide +kernel
theorem dL_law_1222 : decode cL_law 1222 = .ok (.iadd, 1) := by decide +kernel
theorem dL_law_1223 : decode cL_law 1223 = .ok (.iaload, 1) := by decide +kernel
theorem dL_law_1224 : decode cL_law 1224 = .ok (.aload_n 0, 1) := by decide +kernel
theorem dL_law_1225 : decode cL_law 1225 = .ok (.iload_n 3, 1) := by decide +kernel
theorem dL_law_1226 : decode cL_law 1226 = .ok (.iconst 2, 1) := by decide +kernel
theorem dL_law_1227 : decode cL_law 1227 = .ok (.iadd, 1) := by decide +kernel
theorem dL_law_1228 : decode cL_law 1228 = .ok (.iaload, 1) := by decide +kernel
theorem dL_law_1229 : decode cL_law 1229 = .ok (.aload_n 0, 1) := by decide +kernel
theorem dL_law_1230 : decode cL_law 1230 = .ok (.iload_n 3, 1) := by decide +kernel
theorem dL_law_1231 : decode cL_law 1231 = .ok (.iconst 3, 1) := by decide +kernel
theorem dL_law_1232 : decode cL_law 1232 = .ok (.iadd, 1) := by decide +kernel
theorem dL_law_1233 : decode cL_law 1233 = .ok (.iaload, 1) := by decide +kernel
theorem dL_law_1234 : decode cL_law 1234 = .ok (.aload_n 0, 1) := by decide +kernel
theorem dL_law_1235 : decode cL_law 1235 = .ok (.iload_n 3, 1) := by decide +kernel
theorem dL_law_1236 : decode cL_law 1236 = .ok (.iconst 4, 1) := by decide +kernel
theorem dL_law_1237 : decode cL_law 1237 = .ok (.iadd, 1) := by decide +kernel
theorem dL_law_1238 : decode cL_law 1238 = .ok (.iaload, 1) := by decide +kernel
theorem dL_law_1239 : decode cL_law 1239 = .ok (.aload_n 0, 1) := by decide +kernel
theorem dL_law_1240 : decode cL_law 1240 = .ok (.iload_n 3, 1) := by decide +kernel
theorem dL_law_1241 : decode cL_law 1241 = .ok (.iconst 5, 1) := by decide +kernel
theorem dL_law_1242 : decode cL_law 1242 = .ok (.iadd, 1) := by decide +kernel
theorem dL_law_1243 : decode cL_law 1243 = .ok (.iaload, 1) := by decide +kernel
theorem dL_law_1244 : decode cL_law 1244 = .ok (.invokevirtual 122, 3) := by decide +kernel
theorem dL_law_1247 : decode cL_law 1247 = .ok (.if_icmp .eq 567, 3) := by decide +kernel
theorem dL_law_1250 : decode cL_law 1250 = .ok (.iconst 0, 1) := by decide +kernel
theorem dL_law_1251 : decode cL_law 1251 = .ok (.ireturn, 1) := by decide +kernel
theorem dL_law_1252 : decode cL_law 1252 = .ok (.aload_n 1, 1) := by decide +kernel
theorem dL_law_1253 : decode cL_law 1253 = .ok (.aload_n 0, 1) := by decide +kernel
theorem dL_law_1254 : decode cL_law 1254 = .ok (.iload_n 3, 1) := by decide +kernel
theorem dL_law_1255 : decode cL_law 1255 = .ok (.iconst 1, 1) := by decide +kernel
theorem dL_law_1256 : decode cL_law 1256 = .ok (.iadd, 1) := by decide +kernel
theorem dL_law_1257 : decode cL_law 1257 = .ok (.iaload, 1) := by decide +kernel
theorem dL_law_1258 : decode cL_law 1258 = .ok (.aload_n 0, 1) := by decide +kernel
theorem dL_law_1259 : decode cL_law 1259 = .ok (.iload_n 3, 1) := by decide +kernel
theorem dL_law_1260 : decode cL_law 1260 = .ok (.iconst 2, 1) := by decide +kernel
theorem dL_law_1261 : decode cL_law 1261 = .ok (.iadd, 1) := by decide +kernel
theorem dL_law_1262 : decode cL_law 1262 = .ok (.iaload, 1) := by decide +kernel
theorem dL_law_1263 : decode cL_law 1263 = .ok (.aload_n 0, 1) := by decide +kernel
theorem dL_law_1264 : decode cL_law 1264 = .ok (.iload_n 3, 1) := by decide +kernel
theorem dL_law_1265 : decode cL_law 1265 = .ok (.iconst 3, 1) := by decide +kernel
theorem dL_law_1266 : decode cL_law 1266 = .ok (.iadd, 1) := by decide +kernel
theorem dL_law_1267 : decode cL_law 1267 = .ok (.iaload, 1) := by decide +kernel
theorem dL_law_1268 : decode cL_law 1268 = .ok (.invokevirtual 123, 3) := by decide +kernel
theorem dL_law_1271 : decode cL_law 1271 = .ok (.aload_n 2, 1) := by decide +kernel
theorem dL_law_1272 : decode cL_law 1272 = .ok (.aload_n 0, 1) := by decide +kernel
theorem dL_law_1273 : decode cL_law 1273 = .ok (.iload_n 3, 1) := by decide +kernel
theorem dL_law_1274 : decode cL_law 1274 = .ok (.iconst 1, 1) := by decide +kernel
theorem dL_law_1275 : decode cL_law 1275 = .ok (.iadd, 1) := by decide +kernel
theorem dL_law_1276 : decode cL_law 1276 = .ok (.iaload, 1) := by decide +kernel
theorem dL_law_1277 : decode cL_law 1277 = .ok (.aload_n 0, 1) := by decide +kernel
theorem dL_law_1278 : decode cL_law 1278 = .ok (.iload_n 3, 1) := by decide +kernel
theorem dL_law_1279 : decode cL_law 1279 = .ok (.iconst 2, 1) := by decide +kernel
theorem dL_law_1280 : decode cL_law 1280 = .ok (.iadd, 1) := by decide +kernel
theorem dL_law_1281 : decode cL_law 1281 = .ok (.iaload, 1) := by decide +kernel
theorem dL_law_1282 : decode cL_law 1282 = .ok (.aload_n 0, 1) := by decide +kernel
theorem dL_law_1283 : decode cL_law 1283 = .ok (.iload_n 3, 1) := by decide +kernel
theorem dL_law_1284 : decode cL_law 1284 = .ok (.iconst 3, 1) := by decide +kernel
theorem dL_law_1285 : decode cL_law 1285 = .ok (.iadd, 1) := by decide +kernel
theorem dL_law_1286 : decode cL_law 1286 = .ok (.iaload, 1) := by decide +kernel
theorem dL_law_1287 : decode cL_law 1287 = .ok (.invokevirtual 126, 3) := by decide +kernel
theorem dL_law_1290 : decode cL_law 1290 = .ok (.if_icmp .eq 524, 3) := by decide +kernel
theorem dL_law_1293 : decode cL_law 1293 = .ok (.iconst 0, 1) := by decide +kernel
theorem dL_law_1294 : decode cL_law 1294 = .ok (.ireturn, 1) := by decide +kernel
theorem dL_law_1295 : decode cL_law 1295 = .ok (.aload_n 1, 1) := by decide +kernel
theorem dL_law_1296 : decode cL_law 1296 = .ok (.aload_n 0, 1) := by decide +kernel
theorem dL_law_1297 : decode cL_law 1297 = .ok (.iload_n 3, 1) := by decide +kernel
theorem dL_law_1298 : decode cL_law 1298 = .ok (.iconst 1, 1) := by decide +kernel
theorem dL_law_1299 : decode cL_law 1299 = .ok (.iadd, 1) := by decide +kernel
theorem dL_law_1300 : decode cL_law 1300 = .ok (.iaload, 1) := by decide +kernel
theorem dL_law_1301 : decode cL_law 1301 = .ok (.aload_n 0, 1) := by decide +kernel
theorem dL_law_1302 : decode cL_law 1302 = .ok (.iload_n 3, 1) := by decide +kernel
theorem dL_law_1303 : decode cL_law 1303 = .ok (.iconst 2, 1) := by decide +kernel
theorem dL_law_1304 : decode cL_law 1304 = .ok (.iadd, 1) := by decide +kernel
theorem dL_law_1305 : decode cL_law 1305 = .ok (.iaload, 1) := by decide +kernel
theorem dL_law_1306 : decode cL_law 1306 = .ok (.aload_n 0, 1) := by decide +kernel
theorem dL_law_1307 : decode cL_law 1307 = .ok (.iload_n 3, 1) := by decide +kernel
theorem dL_law_1308 : decode cL_law 1308 = .ok (.iconst 3, 1) := by decide +kernel
theorem dL_law_1309 : decode cL_law 1309 = .ok (.iadd, 1) := by decide +kernel
theorem dL_law_1310 : decode cL_law 1310 = .ok (.iaload, 1) := by decide +kernel
theorem dL_law_1311 : decode cL_law 1311 = .ok (.aload_n 0, 1) := by decide +kernel
theorem dL_law_1312 : decode cL_law 1312 = .ok (.iload_n 3, 1) := by decide +kernel
theorem dL_law_1313 : decode cL_law 1313 = .ok (.iconst 4, 1) := by decide +kernel
theorem dL_law_1314 : decode cL_law 1314 = .ok (.iadd, 1) := by decide +kernel
theorem dL_law_1315 : decode cL_law 1315 = .ok (.iaload, 1) := by decide +kernel
theorem dL_law_1316 : decode cL_law 1316 = .ok (.invokevirtual 127, 3) := by decide +kernel
theorem dL_law_1319 : decode cL_law 1319 = .ok (.aload_n 2, 1) := by decide +kernel
theorem dL_law_1320 : decode cL_law 1320 = .ok (.aload_n 0, 1) := by decide +kernel
theorem dL_law_1321 : decode cL_law 1321 = .ok (.iload_n 3, 1) := by decide +kernel
theorem dL_law_1322 : decode cL_law 1322 = .ok (.iconst 1, 1) := by decide +kernel
theorem dL_law_1323 : decode cL_law 1323 = .ok (.iadd, 1) := by decide +kernel
theorem dL_law_1324 : decode cL_law 1324 = .ok (.iaload, 1) := by decide +kernel
theorem dL_law_1325 : decode cL_law 1325 = .ok (.aload_n 0, 1) := by decide +kernel
theorem dL_law_1326 : decode cL_law 1326 = .ok (.iload_n 3, 1) := by decide +kernel
theorem dL_law_1327 : decode cL_law 1327 = .ok (.iconst 2, 1) := by decide +kernel
theorem dL_law_1328 : decode cL_law 1328 = .ok (.iadd, 1) := by decide +kernel
theorem dL_law_1329 : decode cL_law 1329 = .ok (.iaload, 1) := by decide +kernel
theorem dL_law_1330 : decode cL_law 1330 = .ok (.aload_n 0, 1) := by decide +kernel
theorem dL_law_1331 : decode cL_law 1331 = .ok (.iload_n 3, 1) := by decide +kernel
theorem dL_law_1332 : decode cL_law 1332 = .ok (.iconst 3, 1) := by decide +kernel
theorem dL_law_1333 : decode cL_law 1333 = .ok (.iadd, 1) := by decide +kernel
theorem dL_law_1334 : decode cL_law 1334 = .ok (.iaload, 1) := by decide +kernel
theorem dL_law_1335 : decode cL_law 1335 = .ok (.aload_n 0, 1) := by decide +kernel
theorem dL_law_1336 : decode cL_law 1336 = .ok (.iload_n 3, 1) := by decide +kernel
theorem dL_law_1337 : decode cL_law 1337 = .ok (.iconst 4, 1) := by decide +kernel
theorem dL_law_1338 : decode cL_law 1338 = .ok (.iadd, 1) := by decide +kernel
theorem dL_law_1339 : decode cL_law 1339 = .ok (.iaload, 1) := by decide +kernel
theorem dL_law_1340 : decode cL_law 1340 = .ok (.invokevirtual 130, 3) := by decide +kernel
theorem dL_law_1343 : decode cL_law 1343 = .ok (.if_icmp .eq 471, 3) := by decide +kernel
theorem dL_law_1346 : decode cL_law 1346 = .ok (.iconst 0, 1) := by decide +kernel
theorem dL_law_1347 : decode cL_law 1347 = .ok (.ireturn, 1) := by decide +kernel
theorem dL_law_1348 : decode cL_law 1348 = .ok (.aload_n 1, 1) := by decide +kernel
theorem dL_law_1349 : decode cL_law 1349 = .ok (.aload_n 0, 1) := by decide +kernel
theorem dL_law_1350 : decode cL_law 1350 = .ok (.iload_n 3, 1) := by decide +kernel
theorem dL_law_1351 : decode cL_law 1351 = .ok (.iconst 1, 1) := by decide +kernel
theorem dL_law_1352 : decode cL_law 1352 = .ok (.iadd, 1) := by decide +kernel
theorem dL_law_1353 : decode cL_law 1353 = .ok (.iaload, 1) := by decide +kernel
theorem dL_law_1354 : decode cL_law 1354 = .ok (.aload_n 0, 1) := by decide +kernel
theorem dL_law_1355 : decode cL_law 1355 = .ok (.iload_n 3, 1) := by decide +kernel
theorem dL_law_1356 : decode cL_law 1356 = .ok (.iconst 2, 1) := by decide +kernel
theorem dL_law_1357 : decode cL_law 1357 = .ok (.iadd, 1) := by decide +kernel
theorem dL_law_1358 : decode cL_law 1358 = .ok (.iaload, 1) := by decide +kernel
theorem dL_law_1359 : decode cL_law 1359 = .ok (.aload_n 0, 1) := by decide +kernel
theorem dL_law_1360 : decode cL_law 1360 = .ok (.iload_n 3, 1) := by decide +kernel
theorem dL_law_1361 : decode cL_law 1361 = .ok (.iconst 3, 1) := by decide +kernel
theorem dL_law_1362 : decode cL_law 1362 = .ok (.iadd, 1) := by decide +kernel
theorem dL_law_1363 : decode cL_law 1363 = .ok (.iaload, 1) := by decide +kernel
theorem dL_law_1364 : decode cL_law 1364 = .ok (.aload_n 0, 1) := by decide +kernel
theorem dL_law_1365 : decode cL_law 1365 = .ok (.iload_n 3, 1) := by decide +kernel
theorem dL_law_1366 : decode cL_law 1366 = .ok (.iconst 4, 1) := by decide +kernel
theorem dL_law_1367 : decode cL_law 1367 = .ok (.iadd, 1) := by decide +kernel
theorem dL_law_1368 : decode cL_law 1368 = .ok (.iaload, 1) := by decide +kernel
theorem dL_law_1369 : decode cL_law 1369 = .ok (.invokevirtual 131, 3) := by decide +kernel
theorem dL_law_1372 : decode cL_law 1372 = .ok (.aload_n 2, 1) := by decide +kernel
theorem dL_law_1373 : decode cL_law 1373 = .ok (.aload_n 0, 1) := by decide +kernel
theorem dL_law_1374 : decode cL_law 1374 = .ok (.iload_n 3, 1) := by decide +kernel
theorem dL_law_1375 : decode cL_law 1375 = .ok (.iconst 1, 1) := by decide +kernel
theorem dL_law_1376 : decode cL_law 1376 = .ok (.iadd, 1) := by decide +kernel
theorem dL_law_1377 : decode cL_law 1377 = .ok (.iaload, 1) := by decide +kernel
theorem dL_law_1378 : decode cL_law 1378 = .ok (.aload_n 0, 1) := by decide +kernel
theorem dL_law_1379 : decode cL_law 1379 = .ok (.iload_n 3, 1) := by decide +kernel
theorem dL_law_1380 : decode cL_law 1380 = .ok (.iconst 2, 1) := by decide +kernel
theorem dL_law_1381 : decode cL_law 1381 = .ok (.iadd, 1) := by decide +kernel
theorem dL_law_1382 : decode cL_law 1382 = .ok (.iaload, 1) := by decide +kernel
theorem dL_law_1383 : decode cL_law 1383 = .ok (.aload_n 0, 1) := by decide +kernel
theorem dL_law_1384 : decode cL_law 1384 = .ok (.iload_n 3, 1) := by decide +kernel
theorem dL_law_1385 : decode cL_law 1385 = .ok (.iconst 3, 1) := by decide +kernel
theorem dL_law_1386 : decode cL_law 1386 = .ok (.iadd, 1) := by decide +kernel
theorem dL_law_1387 : decode cL_law 1387 = .ok (.iaload, 1) := by decide +kernel
theorem dL_law_1388 : decode cL_law 1388 = .ok (.aload_n 0, 1) := by decide +kernel
theorem dL_law_1389 : decode cL_law 1389 = .ok (.iload_n 3, 1) := by decide +kernel
theorem dL_law_1390 : decode cL_law 1390 = .ok (.iconst 4, 1) := by decide +kernel
theorem dL_law_1391 : decode cL_law 1391 = .ok (.iadd, 1) := by decide +kernel
theorem dL_law_1392 : decode cL_law 1392 = .ok (.iaload, 1) := by decide +kernel
theorem dL_law_1393 : decode cL_law 1393 = .ok (.invokevirtual 134, 3) := by decide +kernel
theorem dL_law_1396 : decode cL_law 1396 = .ok (.if_icmp .eq 418, 3) := by decide +kernel
theorem dL_law_1399 : decode cL_law 1399 = .ok (.iconst 0, 1) := by decide +kernel
theorem dL_law_1400 : decode cL_law 1400 = .ok (.ireturn, 1) := by decide +kernel
theorem dL_law_1401 : decode cL_law 1401 = .ok (.aload_n 1, 1) := by decide +kernel
theorem dL_law_1402 : decode cL_law 1402 = .ok (.aload_n 0, 1) := by decide +kernel
theorem dL_law_1403 : decode cL_law 1403 = .ok (.iload_n 3, 1) := by decide +kernel
theorem dL_law_1404 : decode cL_law 1404 = .ok (.iconst 1, 1) := by decide +kernel
theorem dL_law_1405 : decode cL_law 1405 = .ok (.iadd, 1) := by decide +kernel
theorem dL_law_1406 : decode cL_law 1406 = .ok (.iaload, 1) := by decide +kernel
theorem dL_law_1407 : decode cL_law 1407 = .ok (.aload_n 0, 1) := by decide +kernel
theorem dL_law_1408 : decode cL_law 1408 = .ok (.iload_n 3, 1) := by decide +kernel
theorem dL_law_1409 : decode cL_law 1409 = .ok (.iconst 2, 1) := by decide +kernel
theorem dL_law_1410 : decode cL_law 1410 = .ok (.iadd, 1) := by decide +kernel
theorem dL_law_1411 : decode cL_law 1411 = .ok (.iaload, 1) := by decide +kernel
theorem dL_law_1412 : decode cL_law 1412 = .ok (.aload_n 0, 1) := by decide +kernel
theorem dL_law_1413 : decode cL_law 1413 = .ok (.iload_n 3, 1) := by decide +kernel
theorem dL_law_1414 : decode cL_law 1414 = .ok (.iconst 3, 1) := by decide +kernel
theorem dL_law_1415 : decode cL_law 1415 = .ok (.iadd, 1) := by decide +kernel
theorem dL_law_1416 : decode cL_law 1416 = .ok (.iaload, 1) := by decide +kernel
theorem dL_law_1417 : decode cL_law 1417 = .ok (.invokevirtual 135, 3) := by decide +kernel
theorem dL_law_1420 : decode cL_law 1420 = .ok (.aload_n 2, 1) := by decide +kernel
theorem dL_law_1421 : decode cL_law 1421 = .ok (.aload_n 0, 1) := by decide +kernel
theorem dL_law_1422 : decode cL_law 1422 = .ok (.iload_n 3, 1) := by decide +kernel
theorem dL_law_1423 : decode cL_law 1423 = .ok (.iconst 1, 1) := by decide +kernel
theorem dL_law_1424 : decode cL_law 1424 = .ok (.iadd, 1) := by decide +kernel
theorem dL_law_1425 : decode cL_law 1425 = .ok (.iaload, 1) := by decide +kernel
theorem dL_law_1426 : decode cL_law 1426 = .ok (.aload_n 0, 1) := by decide +kernel
theorem dL_law_1427 : decode cL_law 1427 = .ok (.iload_n 3, 1) := by decide +kernel
theorem dL_law_1428 : decode cL_law 1428 = .ok (.iconst 2, 1) := by decide +kernel
theorem dL_law_1429 : decode cL_law 1429 = .ok (.iadd, 1) := by decide +kernel
theorem dL_law_1430 : decode cL_law 1430 = .ok (.iaload, 1) := by decide +kernel
theorem dL_law_1431 : decode cL_law 1431 = .ok (.aload_n 0, 1) := by decide +kernel
theorem dL_law_1432 : decode cL_law 1432 = .ok (.iload_n 3, 1) := by decide +kernel
theorem dL_law_1433 : decode cL_law 1433 = .ok (.iconst 3, 1) := by decide +kernel
theorem dL_law_1434 : decode cL_law 1434 = .ok (.iadd, 1) := by decide +kernel
theorem dL_law_1435 : decode cL_law 1435 = .ok (.iaload, 1) := by decide +kernel
theorem dL_law_1436 : decode cL_law 1436 = .ok (.invokevirtual 139, 3) := by decide +kernel
theorem dL_law_1439 : decode cL_law 1439 = .ok (.lcmp, 1) := by decide +kernel
theorem dL_law_1440 : decode cL_law 1440 = .ok (.ifCond .eq 374, 3) := by decide +kernel
theorem dL_law_1443 : decode cL_law 1443 = .ok (.iconst 0, 1) := by decide +kernel
theorem dL_law_1444 : decode cL_law 1444 = .ok (.ireturn, 1) := by decide +kernel
theorem dL_law_1445 : decode cL_law 1445 = .ok (.aload_n 1, 1) := by decide +kernel
theorem dL_law_1446 : decode cL_law 1446 = .ok (.aload_n 0, 1) := by decide +kernel
theorem dL_law_1447 : decode cL_law 1447 = .ok (.iload_n 3, 1) := by decide +kernel
theorem dL_law_1448 : decode cL_law 1448 = .ok (.iconst 1, 1) := by decide +kernel
theorem dL_law_1449 : decode cL_law 1449 = .ok (.iadd, 1) := by decide +kernel
theorem dL_law_1450 : decode cL_law 1450 = .ok (.iaload, 1) := by decide +kernel
theorem dL_law_1451 : decode cL_law 1451 = .ok (.aload_n 0, 1) := by decide +kernel
theorem dL_law_1452 : decode cL_law 1452 = .ok (.iload_n 3, 1) := by decide +kernel
theorem dL_law_1453 : decode cL_law 1453 = .ok (.iconst 2, 1) := by decide +kernel
theorem dL_law_1454 : decode cL_law 1454 = .ok (.iadd, 1) := by decide +kernel
theorem dL_law_1455 : decode cL_law 1455 = .ok (.iaload, 1) := by decide +kernel
theorem dL_law_1456 : decode cL_law 1456 = .ok (.aload_n 0, 1) := by decide +kernel
theorem dL_law_1457 : decode cL_law 1457 = .ok (.iload_n 3, 1) := by decide +kernel
theorem dL_law_1458 : decode cL_law 1458 = .ok (.iconst 3, 1) := by decide +kernel
theorem dL_law_1459 : decode cL_law 1459 = .ok (.iadd, 1) := by decide +kernel
theorem dL_law_1460 : decode cL_law 1460 = .ok (.iaload, 1) := by decide +kernel
theorem dL_law_1461 : decode cL_law 1461 = .ok (.aload_n 0, 1) := by decide +kernel
theorem dL_law_1462 : decode cL_law 1462 = .ok (.iload_n 3, 1) := by decide +kernel
theorem dL_law_1463 : decode cL_law 1463 = .ok (.iconst 4, 1) := by decide +kernel
theorem dL_law_1464 : decode cL_law 1464 = .ok (.iadd, 1) := by decide +kernel
theorem dL_law_1465 : decode cL_law 1465 = .ok (.iaload, 1) := by decide +kernel
theorem dL_law_1466 : decode cL_law 1466 = .ok (.invokevirtual 140, 3) := by decide +kernel
theorem dL_law_1469 : decode cL_law 1469 = .ok (.aload_n 2, 1) := by decide +kernel
theorem dL_law_1470 : decode cL_law 1470 = .ok (.aload_n 0, 1) := by decide +kernel
theorem dL_law_1471 : decode cL_law 1471 = .ok (.iload_n 3, 1) := by decide +kernel
theorem dL_law_1472 : decode cL_law 1472 = .ok (.iconst 1, 1) := by decide +kernel
theorem dL_law_1473 : decode cL_law 1473 = .ok (.iadd, 1) := by decide +kernel
theorem dL_law_1474 : decode cL_law 1474 = .ok (.iaload, 1) := by decide +kernel
theorem dL_law_1475 : decode cL_law 1475 = .ok (.aload_n 0, 1) := by decide +kernel
theorem dL_law_1476 : decode cL_law 1476 = .ok (.iload_n 3, 1) := by decide +kernel
theorem dL_law_1477 : decode cL_law 1477 = .ok (.iconst 2, 1) := by decide +kernel
theorem dL_law_1478 : decode cL_law 1478 = .ok (.iadd, 1) := by decide +kernel
theorem dL_law_1479 : decode cL_law 1479 = .ok (.iaload, 1) := by decide +kernel
theorem dL_law_1480 : decode cL_law 1480 = .ok (.aload_n 0, 1) := by decide +kernel
theorem dL_law_1481 : decode cL_law 1481 = .ok (.iload_n 3, 1) := by decide +kernel
theorem dL_law_1482 : decode cL_law 1482 = .ok (.iconst 3, 1) := by decide +kernel
theorem dL_law_1483 : decode cL_law 1483 = .ok (.iadd, 1) := by decide +kernel
theorem dL_law_1484 : decode cL_law 1484 = .ok (.iaload, 1) := by decide +kernel
theorem dL_law_1485 : decode cL_law 1485 = .ok (.aload_n 0, 1) := by decide +kernel
theorem dL_law_1486 : decode cL_law 1486 = .ok (.iload_n 3, 1) := by decide +kernel
theorem dL_law_1487 : decode cL_law 1487 = .ok (.iconst 4, 1) := by decide +kernel
theorem dL_law_1488 : decode cL_law 1488 = .ok (.iadd, 1) := by decide +kernel
theorem dL_law_1489 : decode cL_law 1489 = .ok (.iaload, 1) := by decide +kernel
theorem dL_law_1490 : decode cL_law 1490 = .ok (.invokevirtual 143, 3) := by decide +kernel
theorem dL_law_1493 : decode cL_law 1493 = .ok (.if_icmp .eq 321, 3) := by decide +kernel
theorem dL_law_1496 : decode cL_law 1496 = .ok (.iconst 0, 1) := by decide +kernel
theorem dL_law_1497 : decode cL_law 1497 = .ok (.ireturn, 1) := by decide +kernel
theorem dL_law_1498 : decode cL_law 1498 = .ok (.aload_n 1, 1) := by decide +kernel
theorem dL_law_1499 : decode cL_law 1499 = .ok (.aload_n 0, 1) := by decide +kernel
theorem dL_law_1500 : decode cL_law 1500 = .ok (.iload_n 3, 1) := by decide +kernel
theorem dL_law_1501 : decode cL_law 1501 = .ok (.iconst 1, 1) := by decide +kernel
theorem dL_law_1502 : decode cL_law 1502 = .ok (.iadd, 1) := by decide +kernel
theorem dL_law_1503 : decode cL_law 1503 = .ok (.iaload, 1) := by decide +kernel
theorem dL_law_1504 : decode cL_law 1504 = .ok (.aload_n 0, 1) := by decide +kernel
theorem dL_law_1505 : decode cL_law 1505 = .ok (.iload_n 3, 1) := by decide +kernel
theorem dL_law_1506 : decode cL_law 1506 = .ok (.iconst 2, 1) := by decide +kernel
theorem dL_law_1507 : decode cL_law 1507 = .ok (.iadd, 1) := by decide +kernel
theorem dL_law_1508 : decode cL_law 1508 = .ok (.iaload, 1) := by decide +kernel
theorem dL_law_1509 : decode cL_law 1509 = .ok (.invokevirtual 144, 3) := by decide +kernel
theorem dL_law_1512 : decode cL_law 1512 = .ok (.aload_n 2, 1) := by decide +kernel
theorem dL_law_1513 : decode cL_law 1513 = .ok (.aload_n 0, 1) := by decide +kernel
theorem dL_law_1514 : decode cL_law 1514 = .ok (.iload_n 3, 1) := by decide +kernel
theorem dL_law_1515 : decode cL_law 1515 = .ok (.iconst 1, 1) := by decide +kernel
theorem dL_law_1516 : decode cL_law 1516 = .ok (.iadd, 1) := by decide +kernel
theorem dL_law_1517 : decode cL_law 1517 = .ok (.iaload, 1) := by decide +kernel
theorem dL_law_1518 : decode cL_law 1518 = .ok (.aload_n 0, 1) := by decide +kernel
theorem dL_law_1519 : decode cL_law 1519 = .ok (.iload_n 3, 1) := by decide +kernel
theorem dL_law_1520 : decode cL_law 1520 = .ok (.iconst 2, 1) := by decide +kernel
theorem dL_law_1521 : decode cL_law 1521 = .ok (.iadd, 1) := by decide +kernel
theorem dL_law_1522 : decode cL_law 1522 = .ok (.iaload, 1) := by decide +kernel
theorem dL_law_1523 : decode cL_law 1523 = .ok (.invokevirtual 147, 3) := by decide +kernel
theorem dL_law_1526 : decode cL_law 1526 = .ok (.if_icmp .eq 288, 3) := by decide +kernel
theorem dL_law_1529 : decode cL_law 1529 = .ok (.iconst 0, 1) := by decide +kernel
theorem dL_law_1530 : decode cL_law 1530 = .ok (.ireturn, 1) := by decide +kernel
theorem dL_law_1531 : decode cL_law 1531 = .ok (.aload_n 1, 1) := by decide +kernel
theorem dL_law_1532 : decode cL_law 1532 = .ok (.aload_n 0, 1) := by decide +kernel
theorem dL_law_1533 : decode cL_law 1533 = .ok (.iload_n 3, 1) := by decide +kernel
theorem dL_law_1534 : decode cL_law 1534 = .ok (.iconst 1, 1) := by decide +kernel
theorem dL_law_1535 : decode cL_law 1535 = .ok (.iadd, 1) := by decide +kernel
theorem dL_law_1536 : decode cL_law 1536 = .ok (.iaload, 1) := by decide +kernel
theorem dL_law_1537 : decode cL_law 1537 = .ok (.aload_n 0, 1) := by decide +kernel
theorem dL_law_1538 : decode cL_law 1538 = .ok (.iload_n 3, 1) := by decide +kernel
theorem dL_law_1539 : decode cL_law 1539 = .ok (.iconst 2, 1) := by decide +kernel
theorem dL_law_1540 : decode cL_law 1540 = .ok (.iadd, 1) := by decide +kernel
theorem dL_law_1541 : decode cL_law 1541 = .ok (.iaload, 1) := by decide +kernel
theorem dL_law_1542 : decode cL_law 1542 = .ok (.aload_n 0, 1) := by decide +kernel
theorem dL_law_1543 : decode cL_law 1543 = .ok (.iload_n 3, 1) := by decide +kernel
theorem dL_law_1544 : decode cL_law 1544 = .ok (.iconst 3, 1) := by decide +kernel
theorem dL_law_1545 : decode cL_law 1545 = .ok (.iadd, 1) := by decide +kernel
theorem dL_law_1546 : decode cL_law 1546 = .ok (.iaload, 1) := by decide +kernel
theorem dL_law_1547 : decode cL_law 1547 = .ok (.invokevirtual 148, 3) := by decide +kernel
theorem dL_law_1550 : decode cL_law 1550 = .ok (.aload_n 2, 1) := by decide +kernel
theorem dL_law_1551 : decode cL_law 1551 = .ok (.aload_n 0, 1) := by decide +kernel
theorem dL_law_1552 : decode cL_law 1552 = .ok (.iload_n 3, 1) := by decide +kernel
theorem dL_law_1553 : decode cL_law 1553 = .ok (.iconst 1, 1) := by decide +kernel
theorem dL_law_1554 : decode cL_law 1554 = .ok (.iadd, 1) := by decide +kernel
theorem dL_law_1555 : decode cL_law 1555 = .ok (.iaload, 1) := by decide +kernel
theorem dL_law_1556 : decode cL_law 1556 = .ok (.aload_n 0, 1) := by decide +kernel
theorem dL_law_1557 : decode cL_law 1557 = .ok (.iload_n 3, 1) := by decide +kernel
theorem dL_law_1558 : decode cL_law 1558 = .ok (.iconst 2, 1) := by decide +kernel
theorem dL_law_1559 : decode cL_law 1559 = .ok (.iadd, 1) := by decide +kernel
theorem dL_law_1560 : decode cL_law 1560 = .ok (.iaload, 1) := by decide +kernel
theorem dL_law_1561 : decode cL_law 1561 = .ok (.aload_n 0, 1) := by decide +kernel
theorem dL_law_1562 : decode cL_law 1562 = .ok (.iload_n 3, 1) := by decide +kernel
theorem dL_law_1563 : decode cL_law 1563 = .ok (.iconst 3, 1) := by decide +kernel
theorem dL_law_1564 : decode cL_law 1564 = .ok (.iadd, 1) := by decide +kernel
theorem dL_law_1565 : decode cL_law 1565 = .ok (.iaload, 1) := by decide +kernel
theorem dL_law_1566 : decode cL_law 1566 = .ok (.invokevirtual 151, 3) := by decide +kernel
theorem dL_law_1569 : decode cL_law 1569 = .ok (.if_icmp .eq 245, 3) := by decide +kernel
theorem dL_law_1572 : decode cL_law 1572 = .ok (.iconst 0, 1) := by decide +kernel
theorem dL_law_1573 : decode cL_law 1573 = .ok (.ireturn, 1) := by decide +kernel
theorem dL_law_1574 : decode cL_law 1574 = .ok (.aload_n 1, 1) := by decide +kernel
theorem dL_law_1575 : decode cL_law 1575 = .ok (.aload_n 0, 1) := by decide +kernel
theorem dL_law_1576 : decode cL_law 1576 = .ok (.iload_n 3, 1) := by decide +kernel
theorem dL_law_1577 : decode cL_law 1577 = .ok (.iconst 1, 1) := by decide +kernel
theorem dL_law_1578 : decode cL_law 1578 = .ok (.iadd, 1) := by decide +kernel
theorem dL_law_1579 : decode cL_law 1579 = .ok (.iaload, 1) := by decide +kernel
theorem dL_law_1580 : decode cL_law 1580 = .ok (.aload_n 0, 1) := by decide +kernel
theorem dL_law_1581 : decode cL_law 1581 = .ok (.iload_n 3, 1) := by decide +kernel
theorem dL_law_1582 : decode cL_law 1582 = .ok (.iconst 2, 1) := by decide +kernel
theorem dL_law_1583 : decode cL_law 1583 = .ok (.iadd, 1) := by decide +kernel
theorem dL_law_1584 : decode cL_law 1584 = .ok (.iaload, 1) := by decide +kernel
theorem dL_law_1585 : decode cL_law 1585 = .ok (.invokevirtual 152, 3) := by decide +kernel
theorem dL_law_1588 : decode cL_law 1588 = .ok (.aload_n 2, 1) := by decide +kernel
theorem dL_law_1589 : decode cL_law 1589 = .ok (.aload_n 0, 1) := by decide +kernel
theorem dL_law_1590 : decode cL_law 1590 = .ok (.iload_n 3, 1) := by decide +kernel
theorem dL_law_1591 : decode cL_law 1591 = .ok (.iconst 1, 1) := by decide +kernel
theorem dL_law_1592 : decode cL_law 1592 = .ok (.iadd, 1) := by decide +kernel
theorem dL_law_1593 : decode cL_law 1593 = .ok (.iaload, 1) := by decide +kernel
theorem dL_law_1594 : decode cL_law 1594 = .ok (.aload_n 0, 1) := by decide +kernel
theorem dL_law_1595 : decode cL_law 1595 = .ok (.iload_n 3, 1) := by decide +kernel
theorem dL_law_1596 : decode cL_law 1596 = .ok (.iconst 2, 1) := by decide +kernel
theorem dL_law_1597 : decode cL_law 1597 = .ok (.iadd, 1) := by decide +kernel
theorem dL_law_1598 : decode cL_law 1598 = .ok (.iaload, 1) := by decide +kernel
theorem dL_law_1599 : decode cL_law 1599 = .ok (.invokevirtual 155, 3) := by decide +kernel
theorem dL_law_1602 : decode cL_law 1602 = .ok (.if_icmp .eq 212, 3) := by decide +kernel
theorem dL_law_1605 : decode cL_law 1605 = .ok (.iconst 0, 1) := by decide +kernel
theorem dL_law_1606 : decode cL_law 1606 = .ok (.ireturn, 1) := by decide +kernel
theorem dL_law_1607 : decode cL_law 1607 = .ok (.aload_n 1, 1) := by decide +kernel
theorem dL_law_1608 : decode cL_law 1608 = .ok (.aload_n 0, 1) := by decide +kernel
theorem dL_law_1609 : decode cL_law 1609 = .ok (.iload_n 3, 1) := by decide +kernel
theorem dL_law_1610 : decode cL_law 1610 = .ok (.iconst 1, 1) := by decide +kernel
theorem dL_law_1611 : decode cL_law 1611 = .ok (.iadd, 1) := by decide +kernel
theorem dL_law_1612 : decode cL_law 1612 = .ok (.iaload, 1) := by decide +kernel
theorem dL_law_1613 : decode cL_law 1613 = .ok (.invokevirtual 156, 3) := by decide +kernel
theorem dL_law_1616 : decode cL_law 1616 = .ok (.aload_n 2, 1) := by decide +kernel
theorem dL_law_1617 : decode cL_law 1617 = .ok (.aload_n 0, 1) := by decide +kernel
theorem dL_law_1618 : decode cL_law 1618 = .ok (.iload_n 3, 1) := by decide +kernel
theorem dL_law_1619 : decode cL_law 1619 = .ok (.iconst 1, 1) := by decide +kernel
theorem dL_law_1620 : decode cL_law 1620 = .ok (.iadd, 1) := by decide +kernel
theorem dL_law_1621 : decode cL_law 1621 = .ok (.iaload, 1) := by decide +kernel
theorem dL_law_1622 : decode cL_law 1622 = .ok (.invokevirtual 159, 3) := by decide +kernel
theorem dL_law_1625 : decode cL_law 1625 = .ok (.if_icmp .eq 189, 3) := by decide +kernel
theorem dL_law_1628 : decode cL_law 1628 = .ok (.iconst 0, 1) := by decide +kernel
theorem dL_law_1629 : decode cL_law 1629 = .ok (.ireturn, 1) := by decide +kernel
theorem dL_law_1630 : decode cL_law 1630 = .ok (.aload_n 1, 1) := by decide +kernel
theorem dL_law_1631 : decode cL_law 1631 = .ok (.aload_n 0, 1) := by decide +kernel
theorem dL_law_1632 : decode cL_law 1632 = .ok (.iload_n 3, 1) := by decide +kernel
theorem dL_law_1633 : decode cL_law 1633 = .ok (.iconst 1, 1) := by decide +kernel
theorem dL_law_1634 : decode cL_law 1634 = .ok (.iadd, 1) := by decide +kernel
theorem dL_law_1635 : decode cL_law 1635 = .ok (.iaload, 1) := by decide +kernel
theorem dL_law_1636 : decode cL_law 1636 = .ok (.invokevirtual 160, 3) := by decide +kernel
theorem dL_law_1639 : decode cL_law 1639 = .ok (.aload_n 2, 1) := by decide +kernel
theorem dL_law_1640 : decode cL_law 1640 = .ok (.aload_n 0, 1) := by decide +kernel
theorem dL_law_1641 : decode cL_law 1641 = .ok (.iload_n 3, 1) := by decide +kernel
theorem dL_law_1642 : decode cL_law 1642 = .ok (.iconst 1, 1) := by decide +kernel
theorem dL_law_1643 : decode cL_law 1643 = .ok (.iadd, 1) := by decide +kernel
theorem dL_law_1644 : decode cL_law 1644 = .ok (.iaload, 1) := by decide +kernel
theorem dL_law_1645 : decode cL_law 1645 = .ok (.invokevirtual 163, 3) := by decide +kernel
theorem dL_law_1648 : decode cL_law 1648 = .ok (.if_icmp .eq 166, 3) := by decide +kernel
theorem dL_law_1651 : decode cL_law 1651 = .ok (.iconst 0, 1) := by decide +kernel
theorem dL_law_1652 : decode cL_law 1652 = .ok (.ireturn, 1) := by decide +kernel
theorem dL_law_1653 : decode cL_law 1653 = .ok (.aload_n 1, 1) := by decide +kernel
theorem dL_law_1654 : decode cL_law 1654 = .ok (.aload_n 0, 1) := by decide +kernel
theorem dL_law_1655 : decode cL_law 1655 = .ok (.iload_n 3, 1) := by decide +kernel
theorem dL_law_1656 : decode cL_law 1656 = .ok (.iconst 1, 1) := by decide +kernel
theorem dL_law_1657 : decode cL_law 1657 = .ok (.iadd, 1) := by decide +kernel
theorem dL_law_1658 : decode cL_law 1658 = .ok (.iaload, 1) := by decide +kernel
theorem dL_law_1659 : decode cL_law 1659 = .ok (.invokevirtual 164, 3) := by decide +kernel
theorem dL_law_1662 : decode cL_law 1662 = .ok (.aload_n 2, 1) := by decide +kernel
theorem dL_law_1663 : decode cL_law 1663 = .ok (.aload_n 0, 1) := by decide +kernel
theorem dL_law_1664 : decode cL_law 1664 = .ok (.iload_n 3, 1) := by decide +kernel
theorem dL_law_1665 : decode cL_law 1665 = .ok (.iconst 1, 1) := by decide +kernel
theorem dL_law_1666 : decode cL_law 1666 = .ok (.iadd, 1) := by decide +kernel
theorem dL_law_1667 : decode cL_law 1667 = .ok (.iaload, 1) := by decide +kernel
theorem dL_law_1668 : decode cL_law 1668 = .ok (.invokevirtual 167, 3) := by decide +kernel
theorem dL_law_1671 : decode cL_law 1671 = .ok (.if_icmp .eq 143, 3) := by decide +kernel
theorem dL_law_1674 : decode cL_law 1674 = .ok (.iconst 0, 1) := by decide +kernel
theorem dL_law_1675 : decode cL_law 1675 = .ok (.ireturn, 1) := by decide +kernel
theorem dL_law_1676 : decode cL_law 1676 = .ok (.aload_n 1, 1) := by decide +kernel
theorem dL_law_1677 : decode cL_law 1677 = .ok (.aload_n 0, 1) := by decide +kernel
theorem dL_law_1678 : decode cL_law 1678 = .ok (.iload_n 3, 1) := by decide +kernel
theorem dL_law_1679 : decode cL_law 1679 = .ok (.iconst 1, 1) := by decide +kernel
theorem dL_law_1680 : decode cL_law 1680 = .ok (.iadd, 1) := by decide +kernel
theorem dL_law_1681 : decode cL_law 1681 = .ok (.iaload, 1) := by decide +kernel
theorem dL_law_1682 : decode cL_law 1682 = .ok (.invokevirtual 168, 3) := by decide +kernel
theorem dL_law_1685 : decode cL_law 1685 = .ok (.aload_n 2, 1) := by decide +kernel
theorem dL_law_1686 : decode cL_law 1686 = .ok (.aload_n 0, 1) := by decide +kernel
theorem dL_law_1687 : decode cL_law 1687 = .ok (.iload_n 3, 1) := by decide +kernel
theorem dL_law_1688 : decode cL_law 1688 = .ok (.iconst 1, 1) := by decide +kernel
theorem dL_law_1689 : decode cL_law 1689 = .ok (.iadd, 1) := by decide +kernel
theorem dL_law_1690 : decode cL_law 1690 = .ok (.iaload, 1) := by decide +kernel
theorem dL_law_1691 : decode cL_law 1691 = .ok (.invokevirtual 171, 3) := by decide +kernel
theorem dL_law_1694 : decode cL_law 1694 = .ok (.if_icmp .eq 120, 3) := by decide +kernel
theorem dL_law_1697 : decode cL_law 1697 = .ok (.iconst 0, 1) := by decide +kernel
theorem dL_law_1698 : decode cL_law 1698 = .ok (.ireturn, 1) := by decide +kernel
theorem dL_law_1699 : decode cL_law 1699 = .ok (.aload_n 1, 1) := by decide +kernel
theorem dL_law_1700 : decode cL_law 1700 = .ok (.aload_n 0, 1) := by decide +kernel
theorem dL_law_1701 : decode cL_law 1701 = .ok (.iload_n 3, 1) := by decide +kernel
theorem dL_law_1702 : decode cL_law 1702 = .ok (.iconst 1, 1) := by decide +kernel
theorem dL_law_1703 : decode cL_law 1703 = .ok (.iadd, 1) := by decide +kernel
theorem dL_law_1704 : decode cL_law 1704 = .ok (.iaload, 1) := by decide +kernel
theorem dL_law_1705 : decode cL_law 1705 = .ok (.aload_n 0, 1) := by decide +kernel
theorem dL_law_1706 : decode cL_law 1706 = .ok (.iload_n 3, 1) := by decide +kernel
theorem dL_law_1707 : decode cL_law 1707 = .ok (.iconst 2, 1) := by decide +kernel
theorem dL_law_1708 : decode cL_law 1708 = .ok (.iadd, 1) := by decide +kernel
theorem dL_law_1709 : decode cL_law 1709 = .ok (.iaload, 1) := by decide +kernel
theorem dL_law_1710 : decode cL_law 1710 = .ok (.aload_n 0, 1) := by decide +kernel
theorem dL_law_1711 : decode cL_law 1711 = .ok (.iload_n 3, 1) := by decide +kernel
theorem dL_law_1712 : decode cL_law 1712 = .ok (.iconst 3, 1) := by decide +kernel
theorem dL_law_1713 : decode cL_law 1713 = .ok (.iadd, 1) := by decide +kernel
theorem dL_law_1714 : decode cL_law 1714 = .ok (.iaload, 1) := by decide +kernel
theorem dL_law_1715 : decode cL_law 1715 = .ok (.invokevirtual 172, 3) := by decide +kernel
theorem dL_law_1718 : decode cL_law 1718 = .ok (.aload_n 2, 1) := by decide +kernel
theorem dL_law_1719 : decode cL_law 1719 = .ok (.aload_n 0, 1) := by decide +kernel
theorem dL_law_1720 : decode cL_law 1720 = .ok (.iload_n 3, 1) := by decide +kernel
theorem dL_law_1721 : decode cL_law 1721 = .ok (.iconst 1, 1) := by decide +kernel
theorem dL_law_1722 : decode cL_law 1722 = .ok (.iadd, 1) := by decide +kernel
theorem dL_law_1723 : decode cL_law 1723 = .ok (.iaload, 1) := by decide +kernel
theorem dL_law_1724 : decode cL_law 1724 = .ok (.aload_n 0, 1) := by decide +kernel
theorem dL_law_1725 : decode cL_law 1725 = .ok (.iload_n 3, 1) := by decide +kernel
theorem dL_law_1726 : decode cL_law 1726 = .ok (.iconst 2, 1) := by decide +kernel
theorem dL_law_1727 : decode cL_law 1727 = .ok (.iadd, 1) := by decide +kernel
theorem dL_law_1728 : decode cL_law 1728 = .ok (.iaload, 1) := by decide +kernel
theorem dL_law_1729 : decode cL_law 1729 = .ok (.aload_n 0, 1) := by decide +kernel
theorem dL_law_1730 : decode cL_law 1730 = .ok (.iload_n 3, 1) := by decide +kernel
theorem dL_law_1731 : decode cL_law 1731 = .ok (.iconst 3, 1) := by decide +kernel
theorem dL_law_1732 : decode cL_law 1732 = .ok (.iadd, 1) := by decide +kernel
theorem dL_law_1733 : decode cL_law 1733 = .ok (.iaload, 1) := by decide +kernel
theorem dL_law_1734 : decode cL_law 1734 = .ok (.invokevirtual 175, 3) := by decide +kernel
theorem dL_law_1737 : decode cL_law 1737 = .ok (.if_icmp .eq 77, 3) := by decide +kernel
theorem dL_law_1740 : decode cL_law 1740 = .ok (.iconst 0, 1) := by decide +kernel
theorem dL_law_1741 : decode cL_law 1741 = .ok (.ireturn, 1) := by decide +kernel
theorem dL_law_1742 : decode cL_law 1742 = .ok (.aload_n 1, 1) := by decide +kernel
theorem dL_law_1743 : decode cL_law 1743 = .ok (.aload_n 0, 1) := by decide +kernel
theorem dL_law_1744 : decode cL_law 1744 = .ok (.iload_n 3, 1) := by decide +kernel
theorem dL_law_1745 : decode cL_law 1745 = .ok (.iconst 1, 1) := by decide +kernel
theorem dL_law_1746 : decode cL_law 1746 = .ok (.iadd, 1) := by decide +kernel
theorem dL_law_1747 : decode cL_law 1747 = .ok (.iaload, 1) := by decide +kernel
theorem dL_law_1748 : decode cL_law 1748 = .ok (.invokevirtual 176, 3) := by decide +kernel
theorem dL_law_1751 : decode cL_law 1751 = .ok (.aload_n 2, 1) := by decide +kernel
theorem dL_law_1752 : decode cL_law 1752 = .ok (.aload_n 0, 1) := by decide +kernel
theorem dL_law_1753 : decode cL_law 1753 = .ok (.iload_n 3, 1) := by decide +kernel
theorem dL_law_1754 : decode cL_law 1754 = .ok (.iconst 1, 1) := by decide +kernel
theorem dL_law_1755 : decode cL_law 1755 = .ok (.iadd, 1) := by decide +kernel
theorem dL_law_1756 : decode cL_law 1756 = .ok (.iaload, 1) := by decide +kernel
theorem dL_law_1757 : decode cL_law 1757 = .ok (.invokevirtual 179, 3) := by decide +kernel
theorem dL_law_1760 : decode cL_law 1760 = .ok (.if_icmp .eq 54, 3) := by decide +kernel
theorem dL_law_1763 : decode cL_law 1763 = .ok (.iconst 0, 1) := by decide +kernel
theorem dL_law_1764 : decode cL_law 1764 = .ok (.ireturn, 1) := by decide +kernel
theorem dL_law_1765 : decode cL_law 1765 = .ok (.aload_n 1, 1) := by decide +kernel
theorem dL_law_1766 : decode cL_law 1766 = .ok (.invokevirtual 180, 3) := by decide +kernel
theorem dL_law_1769 : decode cL_law 1769 = .ok (.aload_n 2, 1) := by decide +kernel
theorem dL_law_1770 : decode cL_law 1770 = .ok (.invokevirtual 183, 3) := by decide +kernel
theorem dL_law_1773 : decode cL_law 1773 = .ok (.if_icmp .eq 41, 3) := by decide +kernel
theorem dL_law_1776 : decode cL_law 1776 = .ok (.iconst 0, 1) := by decide +kernel
theorem dL_law_1777 : decode cL_law 1777 = .ok (.ireturn, 1) := by decide +kernel
theorem dL_law_1778 : decode cL_law 1778 = .ok (.aload_n 1, 1) := by decide +kernel
theorem dL_law_1779 : decode cL_law 1779 = .ok (.invokevirtual 184, 3) := by decide +kernel
theorem dL_law_1782 : decode cL_law 1782 = .ok (.aload_n 2, 1) := by decide +kernel
theorem dL_law_1783 : decode cL_law 1783 = .ok (.invokevirtual 187, 3) := by decide +kernel
theorem dL_law_1786 : decode cL_law 1786 = .ok (.if_icmp .eq 28, 3) := by decide +kernel
theorem dL_law_1789 : decode cL_law 1789 = .ok (.iconst 0, 1) := by decide +kernel
theorem dL_law_1790 : decode cL_law 1790 = .ok (.ireturn, 1) := by decide +kernel
theorem dL_law_1791 : decode cL_law 1791 = .ok (.aload_n 1, 1) := by decide +kernel
theorem dL_law_1792 : decode cL_law 1792 = .ok (.aload_n 0, 1) := by decide +kernel
theorem dL_law_1793 : decode cL_law 1793 = .ok (.iload_n 3, 1) := by decide +kernel
theorem dL_law_1794 : decode cL_law 1794 = .ok (.iconst 1, 1) := by decide +kernel
theorem dL_law_1795 : decode cL_law 1795 = .ok (.iadd, 1) := by decide +kernel
theorem dL_law_1796 : decode cL_law 1796 = .ok (.iaload, 1) := by decide +kernel
theorem dL_law_1797 : decode cL_law 1797 = .ok (.invokevirtual 188, 3) := by decide +kernel
theorem dL_law_1800 : decode cL_law 1800 = .ok (.aload_n 2, 1) := by decide +kernel
theorem dL_law_1801 : decode cL_law 1801 = .ok (.aload_n 0, 1) := by decide +kernel
theorem dL_law_1802 : decode cL_law 1802 = .ok (.iload_n 3, 1) := by decide +kernel
theorem dL_law_1803 : decode cL_law 1803 = .ok (.iconst 1, 1) := by decide +kernel
theorem dL_law_1804 : decode cL_law 1804 = .ok (.iadd, 1) := by decide +kernel
theorem dL_law_1805 : decode cL_law 1805 = .ok (.iaload, 1) := by decide +kernel
theorem dL_law_1806 : decode cL_law 1806 = .ok (.invokevirtual 191, 3) := by decide +kernel
theorem dL_law_1809 : decode cL_law 1809 = .ok (.if_icmp .eq 5, 3) := by decide +kernel
theorem dL_law_1812 : decode cL_law 1812 = .ok (.iconst 0, 1) := by decide +kernel
theorem dL_law_1813 : decode cL_law 1813 = .ok (.ireturn, 1) := by decide +kernel
theorem dL_law_1814 : decode cL_law 1814 = .ok (.iinc 3 6, 3) := by decide +kernel
theorem dL_law_1817 : decode cL_law 1817 = .ok (.goto (-1799), 3) := by decide +kernel
theorem dL_law_1820 : decode cL_law 1820 = .ok (.iconst 1, 1) := by decide +kernel
theorem dL_law_1821 : decode cL_law 1821 = .ok (.ireturn, 1) := by decide +kernel
theorem dJ9_max_7cf53_0 : decode cJ9_max_7cf53 0 = .ok (.iload_n 0, 1) := by decide +kernel
theorem dJ9_max_7cf53_1 : decode cJ9_max_7cf53 1 = .ok (.iload_n 1, 1) := by decide +kernel
theorem dJ9_max_7cf53_2 : decode cJ9_max_7cf53 2 = .ok (.if_icmp .lt 7, 3) := by decide +kernel
theorem dJ9_max_7cf53_5 : decode cJ9_max_7cf53 5 = .ok (.iload_n 0, 1) := by decide +kernel
theorem dJ9_max_7cf53_6 : decode cJ9_max_7cf53 6 = .ok (.goto 4, 3) := by decide +kernel
theorem dJ9_max_7cf53_9 : decode cJ9_max_7cf53 9 = .ok (.iload_n 1, 1) := by decide +kernel
theorem dJ9_max_7cf53_10 : decode cJ9_max_7cf53 10 = .ok (.ireturn, 1) := by decide +kernel
theorem dJ9_min_7cf53_0 : decode cJ9_min_7cf53 0 = .ok (.iload_n 0, 1) := by decide +kernel
theorem dJ9_min_7cf53_1 : decode cJ9_min_7cf53 1 = .ok (.iload_n 1, 1) := by decide +kernel
theorem dJ9_min_7cf53_2 : decode cJ9_min_7cf53 2 = .ok (.if_icmp .gt 7, 3) := by decide +kernel
theorem dJ9_min_7cf53_5 : decode cJ9_min_7cf53 5 = .ok (.iload_n 0, 1) := by decide +kernel
theorem dJ9_min_7cf53_6 : decode cJ9_min_7cf53 6 = .ok (.goto 4, 3) := by decide +kernel
theorem dJ9_min_7cf53_9 : decode cJ9_min_7cf53 9 = .ok (.iload_n 1, 1) := by decide +kernel
theorem dJ9_min_7cf53_10 : decode cJ9_min_7cf53 10 = .ok (.ireturn, 1) := by decide +kernel
theorem dJ0_length_8abf5_0 : decode cJ0_length_8abf5 0 = .ok (.aload_n 0, 1) := by decide +kernel
theorem dJ0_length_8abf5_1 : decode cJ0_length_8abf5 1 = .ok (.getfield 9, 3) := by decide +kernel
theorem dJ0_length_8abf5_4 : decode cJ0_length_8abf5 4 = .ok (.arraylength, 1) := by decide +kernel
theorem dJ0_length_8abf5_5 : decode cJ0_length_8abf5 5 = .ok (.aload_n 0, 1) := by decide +kernel
theorem dJ0_length_8abf5_6 : decode cJ0_length_8abf5 6 = .ok (.invokevirtual 335, 3) := by decide +kernel
theorem dJ0_length_8abf5_9 : decode cJ0_length_8abf5 9 = .ok (.ishr, 1) := by decide +kernel
theorem dJ0_length_8abf5_10 : decode cJ0_length_8abf5 10 = .ok (.ireturn, 1) := by decide +kernel
theorem dJ0_charAt_5068e_0 : decode cJ0_charAt_5068e 0 = .ok (.aload_n 0, 1) := by decide +kernel
theorem dJ0_charAt_5068e_1 : decode cJ0_charAt_5068e 1 = .ok (.invokevirtual 492, 3) := by decide +kernel
theorem dJ0_charAt_5068e_4 : decode cJ0_charAt_5068e 4 = .ok (.ifCond .eq 12, 3) := by decide +kernel
theorem dJ0_charAt_5068e_7 : decode cJ0_charAt_5068e 7 = .ok (.aload_n 0, 1) := by decide +kernel
theorem dJ0_charAt_5068e_8 : decode cJ0_charAt_5068e 8 = .ok (.getfield 9, 3) := by decide +kernel
theorem dJ0_charAt_5068e_11 : decode cJ0_charAt_5068e 11 = .ok (.iload_n 1, 1) := by decide +kernel
theorem dJ0_charAt_5068e_12 : decode cJ0_charAt_5068e 12 = .ok (.invokestatic 495, 3) := by decide +kernel
theorem dJ0_charAt_5068e_15 : decode cJ0_charAt_5068e 15 = .ok (.ireturn, 1) := by decide +kernel
theorem dJ0_charAt_5068e_16 : decode cJ0_charAt_5068e 16 = .ok (.aload_n 0, 1) := by decide +kernel
theorem dJ0_charAt_5068e_17 : decode cJ0_charAt_5068e 17 = .ok (.getfield 9, 3) := by decide +kernel
theorem dJ0_charAt_5068e_20 : decode cJ0_charAt_5068e 20 = .ok (.iload_n 1, 1) := by decide +kernel
theorem dJ0_charAt_5068e_21 : decode cJ0_charAt_5068e 21 = .ok (.invokestatic 498, 3) := by decide +kernel
theorem dJ0_charAt_5068e_24 : decode cJ0_charAt_5068e 24 = .ok (.ireturn, 1) := by decide +kernel
theorem dJ0_coder_7d493_0 : decode cJ0_coder_7d493 0 = .ok (.getstatic 38, 3) := by decide +kernel
theorem dJ0_coder_7d493_3 : decode cJ0_coder_7d493 3 = .ok (.ifCond .eq 10, 3) := by decide +kernel
theorem dJ0_coder_7d493_6 : decode cJ0_coder_7d493 6 = .ok (.aload_n 0, 1) := by decide +kernel
theorem dJ0_coder_7d493_7 : decode cJ0_coder_7d493 7 = .ok (.getfield 15, 3) := by decide +kernel
theorem dJ0_coder_7d493_10 : decode cJ0_coder_7d493 10 = .ok (.goto 4, 3) := by decide +kernel
theorem dJ0_coder_7d493_13 : decode cJ0_coder_7d493 13 = .ok (.iconst 1, 1) := by decide +kernel
theorem dJ0_coder_7d493_14 : decode cJ0_coder_7d493 14 = .ok (.ireturn, 1) := by decide +kernel
theorem dJ0_isLatin1_aae02_0 : decode cJ0_isLatin1_aae02 0 = .ok (.getstatic 38, 3) := by decide +kernel
theorem dJ0_isLatin1_aae02_3 : decode cJ0_isLatin1_aae02 3 = .ok (.ifCond .eq 14, 3) := by decide +kernel
theorem dJ0_isLatin1_aae02_6 : decode cJ0_isLatin1_aae02 6 = .ok (.aload_n 0, 1) := by decide +kernel
theorem dJ0_isLatin1_aae02_7 : decode cJ0_isLatin1_aae02 7 = .ok (.getfield 15, 3) := by decide +kernel
theorem dJ0_isLatin1_aae02_10 : decode cJ0_isLatin1_aae02 10 = .ok (.ifCond .ne 7, 3) := by decide +kernel
theorem dJ0_isLatin1_aae02_13 : decode cJ0_isLatin1_aae02 13 = .ok (.iconst 1, 1) := by decide +kernel
theorem dJ0_isLatin1_aae02_14 : decode cJ0_isLatin1_aae02 14 = .ok (.goto 4, 3) := by decide +kernel
theorem dJ0_isLatin1_aae02_17 : decode cJ0_isLatin1_aae02 17 = .ok (.iconst 0, 1) := by decide +kernel
theorem dJ0_isLatin1_aae02_18 : decode cJ0_isLatin1_aae02 18 = .ok (.ireturn, 1) := by decide +kernel
theorem dJ0_checkIndex_df160_0 : decode cJ0_checkIndex_df160 0 = .ok (.iload_n 0, 1) := by decide +kernel
theorem dJ0_checkIndex_df160_1 : decode cJ0_checkIndex_df160 1 = .ok (.iload_n 1, 1) := by decide +kernel
theorem dJ0_checkIndex_df160_2 : decode cJ0_checkIndex_df160 2 = .ok (.getstatic 1053, 3) := by decide +kernel
theorem dJ0_checkIndex_df160_5 : decode cJ0_checkIndex_df160 5 = .ok (.invokestatic 1059, 3) := by decide +kernel
theorem dJ0_checkIndex_df160_8 : decode cJ0_checkIndex_df160 8 = .ok (.pop, 1) := by decide +kernel
theorem dJ0_checkIndex_df160_9 : decode cJ0_checkIndex_df160 9 = .ok (.return_, 1) := by decide +kernel
theorem dJ1_charAt_3b067_0 : decode cJ1_charAt_3b067 0 = .ok (.iload_n 1, 1) := by decide +kernel
theorem dJ1_charAt_3b067_1 : decode cJ1_charAt_3b067 1 = .ok (.aload_n 0, 1) := by decide +kernel
theorem dJ1_charAt_3b067_2 : decode cJ1_charAt_3b067 2 = .ok (.arraylength, 1) := by decide +kernel
theorem dJ1_charAt_3b067_3 : decode cJ1_charAt_3b067 3 = .ok (.invokestatic 9, 3) := by decide +kernel
theorem dJ1_charAt_3b067_6 : decode cJ1_charAt_3b067 6 = .ok (.aload_n 0, 1) := by decide +kernel
theorem dJ1_charAt_3b067_7 : decode cJ1_charAt_3b067 7 = .ok (.iload_n 1, 1) := by decide +kernel
theorem dJ1_charAt_3b067_8 : decode cJ1_charAt_3b067 8 = .ok (.baload, 1) := by decide +kernel
theorem dJ1_charAt_3b067_9 : decode cJ1_charAt_3b067 9 = .ok (.sipush 255, 3) := by decide +kernel
theorem dJ1_charAt_3b067_12 : decode cJ1_charAt_3b067 12 = .ok (.iand, 1) := by decide +kernel
theorem dJ1_charAt_3b067_13 : decode cJ1_charAt_3b067 13 = .ok (.i2c, 1) := by decide +kernel
theorem dJ1_charAt_3b067_14 : decode cJ1_charAt_3b067 14 = .ok (.ireturn, 1) := by decide +kernel
theorem dJ2_getChar_3b067_0 : decode cJ2_getChar_3b067 0 = .ok (.getstatic 44, 3) := by decide +kernel
theorem dJ2_getChar_3b067_3 : decode cJ2_getChar_3b067 3 = .ok (.ifCond .ne 25, 3) := by decide +kernel
theorem dJ2_getChar_3b067_6 : decode cJ2_getChar_3b067 6 = .ok (.iload_n 1, 1) := by decide +kernel
theorem dJ2_getChar_3b067_7 : decode cJ2_getChar_3b067 7 = .ok (.ifCond .lt 11, 3) := by decide +kernel
theorem dJ2_getChar_3b067_10 : decode cJ2_getChar_3b067 10 = .ok (.iload_n 1, 1) := by decide +kernel
theorem dJ2_getChar_3b067_11 : decode cJ2_getChar_3b067 11 = .ok (.aload_n 0, 1) := by decide +kernel
theorem dJ2_getChar_3b067_12 : decode cJ2_getChar_3b067 12 = .ok (.invokestatic 48, 3) := by decide +kernel
theorem dJ2_getChar_3b067_15 : decode cJ2_getChar_3b067 15 = .ok (.if_icmp .lt 13, 3) := by decide +kernel
theorem dJ2_getChar_3b067_18 : decode cJ2_getChar_3b067 18 = .ok (.new 52, 3) := by decide +kernel
theorem dJ2_getChar_3b067_21 : decode cJ2_getChar_3b067 21 = .ok (.dup, 1) := by decide +kernel
theorem dJ2_getChar_3b067_22 : decode cJ2_getChar_3b067 22 = .ok (.ldc 54, 2) := by decide +kernel
theorem dJ2_getChar_3b067_24 : decode cJ2_getChar_3b067 24 = .ok (.invokespecial 56, 3) := by decide +kernel
theorem dJ2_getChar_3b067_27 : decode cJ2_getChar_3b067 27 = .ok (.athrow, 1) := by decide +kernel
theorem dJ2_getChar_3b067_28 : decode cJ2_getChar_3b067 28 = .ok (.iload_n 1, 1) := by decide +kernel
theorem dJ2_getChar_3b067_29 : decode cJ2_getChar_3b067 29 = .ok (.iconst 1, 1) := by decide +kernel
theorem dJ2_getChar_3b067_30 : decode cJ2_getChar_3b067 30 = .ok (.ishl, 1) := by decide +kernel
theorem dJ2_getChar_3b067_31 : decode cJ2_getChar_3b067 31 = .ok (.istore_n 1, 1) := by decide +kernel
theorem dJ2_getChar_3b067_32 : decode cJ2_getChar_3b067 32 = .ok (.aload_n 0, 1) := by decide +kernel
theorem dJ2_getChar_3b067_33 : decode cJ2_getChar_3b067 33 = .ok (.iload_n 1, 1) := by decide +kernel
theorem dJ2_getChar_3b067_34 : decode cJ2_getChar_3b067 34 = .ok (.iinc 1 1, 3) := by decide +kernel
theorem dJ2_getChar_3b067_37 : decode cJ2_getChar_3b067 37 = .ok (.baload, 1) := by decide +kernel
theorem dJ2_getChar_3b067_38 : decode cJ2_getChar_3b067 38 = .ok (.sipush 255, 3) := by decide +kernel
theorem dJ2_getChar_3b067_41 : decode cJ2_getChar_3b067 41 = .ok (.iand, 1) := by decide +kernel
theorem dJ2_getChar_3b067_42 : decode cJ2_getChar_3b067 42 = .ok (.getstatic 59, 3) := by decide +kernel
theorem dJ2_getChar_3b067_45 : decode cJ2_getChar_3b067 45 = .ok (.ishl, 1) := by decide +kernel
theorem dJ2_getChar_3b067_46 : decode cJ2_getChar_3b067 46 = .ok (.aload_n 0, 1) := by decide +kernel
theorem dJ2_getChar_3b067_47 : decode cJ2_getChar_3b067 47 = .ok (.iload_n 1, 1) := by decide +kernel
theorem dJ2_getChar_3b067_48 : decode cJ2_getChar_3b067 48 = .ok (.baload, 1) := by decide +kernel
theorem dJ2_getChar_3b067_49 : decode cJ2_getChar_3b067 49 = .ok (.sipush 255, 3) := by decide +kernel
theorem dJ2_getChar_3b067_52 : decode cJ2_getChar_3b067 52 = .ok (.iand, 1) := by decide +kernel
theorem dJ2_getChar_3b067_53 : decode cJ2_getChar_3b067 53 = .ok (.getstatic 63, 3) := by decide +kernel
theorem dJ2_getChar_3b067_56 : decode cJ2_getChar_3b067 56 = .ok (.ishl, 1) := by decide +kernel
theorem dJ2_getChar_3b067_57 : decode cJ2_getChar_3b067 57 = .ok (.ior, 1) := by decide +kernel
theorem dJ2_getChar_3b067_58 : decode cJ2_getChar_3b067 58 = .ok (.i2c, 1) := by decide +kernel
theorem dJ2_getChar_3b067_59 : decode cJ2_getChar_3b067 59 = .ok (.ireturn, 1) := by decide +kernel
theorem dJ2_length_9d52b_0 : decode cJ2_length_9d52b 0 = .ok (.aload_n 0, 1) := by decide +kernel
theorem dJ2_length_9d52b_1 : decode cJ2_length_9d52b 1 = .ok (.arraylength, 1) := by decide +kernel
theorem dJ2_length_9d52b_2 : decode cJ2_length_9d52b 2 = .ok (.iconst 1, 1) := by decide +kernel
theorem dJ2_length_9d52b_3 : decode cJ2_length_9d52b 3 = .ok (.ishr, 1) := by decide +kernel
theorem dJ2_length_9d52b_4 : decode cJ2_length_9d52b 4 = .ok (.ireturn, 1) := by decide +kernel
theorem dJ2_charAt_3b067_0 : decode cJ2_charAt_3b067 0 = .ok (.iload_n 1, 1) := by decide +kernel
theorem dJ2_charAt_3b067_1 : decode cJ2_charAt_3b067 1 = .ok (.aload_n 0, 1) := by decide +kernel
theorem dJ2_charAt_3b067_2 : decode cJ2_charAt_3b067 2 = .ok (.invokestatic 67, 3) := by decide +kernel
theorem dJ2_charAt_3b067_5 : decode cJ2_charAt_3b067 5 = .ok (.aload_n 0, 1) := by decide +kernel
theorem dJ2_charAt_3b067_6 : decode cJ2_charAt_3b067 6 = .ok (.iload_n 1, 1) := by decide +kernel
theorem dJ2_charAt_3b067_7 : decode cJ2_charAt_3b067 7 = .ok (.invokestatic 71, 3) := by decide +kernel
theorem dJ2_charAt_3b067_10 : decode cJ2_charAt_3b067 10 = .ok (.ireturn, 1) := by decide +kernel
theorem dJ2_checkIndex_2214a_0 : decode cJ2_checkIndex_2214a 0 = .ok (.iload_n 0, 1) := by decide +kernel
theorem dJ2_checkIndex_2214a_1 : decode cJ2_checkIndex_2214a 1 = .ok (.aload_n 1, 1) := by decide +kernel
theorem dJ2_checkIndex_2214a_2 : decode cJ2_checkIndex_2214a 2 = .ok (.invokestatic 48, 3) := by decide +kernel
theorem dJ2_checkIndex_2214a_5 : decode cJ2_checkIndex_2214a 5 = .ok (.invokestatic 414, 3) := by decide +kernel
theorem dJ2_checkIndex_2214a_8 : decode cJ2_checkIndex_2214a 8 = .ok (.return_, 1) := by decide +kernel
theorem dJ3_checkIndex_8e157_0 : decode cJ3_checkIndex_8e157 0 = .ok (.iload_n 0, 1) := by decide +kernel
theorem dJ3_checkIndex_8e157_1 : decode cJ3_checkIndex_8e157 1 = .ok (.ifCond .lt 8, 3) := by decide +kernel
theorem dJ3_checkIndex_8e157_4 : decode cJ3_checkIndex_8e157 4 = .ok (.iload_n 0, 1) := by decide +kernel
theorem dJ3_checkIndex_8e157_5 : decode cJ3_checkIndex_8e157 5 = .ok (.iload_n 1, 1) := by decide +kernel
theorem dJ3_checkIndex_8e157_6 : decode cJ3_checkIndex_8e157 6 = .ok (.if_icmp .lt 10, 3) := by decide +kernel
theorem dJ3_checkIndex_8e157_9 : decode cJ3_checkIndex_8e157 9 = .ok (.aload_n 2, 1) := by decide +kernel
theorem dJ3_checkIndex_8e157_10 : decode cJ3_checkIndex_8e157 10 = .ok (.iload_n 0, 1) := by decide +kernel
theorem dJ3_checkIndex_8e157_11 : decode cJ3_checkIndex_8e157 11 = .ok (.iload_n 1, 1) := by decide +kernel
theorem dJ3_checkIndex_8e157_12 : decode cJ3_checkIndex_8e157 12 = .ok (.invokestatic 95, 3) := by decide +kernel
theorem dJ3_checkIndex_8e157_15 : decode cJ3_checkIndex_8e157 15 = .ok (.athrow, 1) := by decide +kernel
theorem dJ3_checkIndex_8e157_16 : decode cJ3_checkIndex_8e157 16 = .ok (.iload_n 0, 1) := by decide +kernel
theorem dJ3_checkIndex_8e157_17 : decode cJ3_checkIndex_8e157 17 = .ok (.ireturn, 1) := by decide +kernel
end
section
/-! THE LIGHT JUDGEMENT: a frame of a method over a memory M whose objects lie at B, B + 1, .. by a fixed plan -/
theorem tb_in {w : Cond} (i : Nat) (h : lw_tbl[i]? = some w) : w ∈ lw_tbl := List.mem_of_getElem? h
/-- the words that stand for every caller, whatever the arguments -/
def tbG : List Cond := lw_tbl.filter (fun w => w.onTables && w.keeps)
theorem tg_in {w : Cond} (i : Nat) (h : lw_tbl[i]? = some w) (hg : (w.onTables && w.keeps) = true) : w ∈ tbG := List.mem_filter.mpr ⟨List.mem_of_getElem? h, hg⟩
theorem tg_ok {w : Cond} (h : w ∈ tbG) : w.onTables = true ∧ w.keeps = true := by
  have h1 := (List.mem_filter.mp h).2
  simpa using h1
/-- memory: ints and longs by address and place -/
abbrev MM : Type := (Nat → Nat → Int32) × (Nat → Nat → Int64)
def upR (M : MM) (a : Nat) (f : Nat → Int32) : MM := (fun q => if q = a then f else M.1 q, M.2)
def upRL (M : MM) (a : Nat) (f : Nat → Int64) : MM := (M.1, fun q => if q = a then f else M.2 q)
def upI (M : MM) (a k : Nat) (x : Int32) : MM := upR M a (upd (M.1 a) k x)
def upL (M : MM) (a k : Nat) (x : Int64) : MM := upRL M a (vp_updL (M.2 a) k x)
theorem upR_s {M : MM} {a : Nat} {f : Nat → Int32} : (upR M a f).1 a = f := by simp [upR]
theorem upR_n {M : MM} {a q : Nat} {f : Nat → Int32} (h : q ≠ a) : (upR M a f).1 q = M.1 q := by simp [upR, h]
theorem upR_l {M : MM} {a : Nat} {f : Nat → Int32} : (upR M a f).2 = M.2 := rfl
theorem upRL_s {M : MM} {a : Nat} {f : Nat → Int64} : (upRL M a f).2 a = f := by simp [upRL]
theorem upRL_n {M : MM} {a q : Nat} {f : Nat → Int64} (h : q ≠ a) : (upRL M a f).2 q = M.2 q := by simp [upRL, h]
theorem upRL_i {M : MM} {a : Nat} {f : Nat → Int64} : (upRL M a f).1 = M.1 := rfl
theorem upI_s {M : MM} {a k : Nat} {x : Int32} : (upI M a k x).1 a k = x := by simp [upI, upR, upd]
theorem upI_k {M : MM} {a k j : Nat} {x : Int32} (h : j ≠ k) : (upI M a k x).1 a j = M.1 a j := by simp [upI, upR, upd, h]
theorem upI_n {M : MM} {a k q : Nat} {x : Int32} (h : q ≠ a) : (upI M a k x).1 q = M.1 q := by simp [upI, upR, h]
theorem upI_l {M : MM} {a k : Nat} {x : Int32} : (upI M a k x).2 = M.2 := rfl
theorem upL_s {M : MM} {a k : Nat} {x : Int64} : (upL M a k x).2 a k = x := by simp [upL, upRL, vp_updL]
theorem upL_k {M : MM} {a k j : Nat} {x : Int64} (h : j ≠ k) : (upL M a k x).2 a j = M.2 a j := by simp [upL, upRL, vp_updL, h]
theorem upL_n {M : MM} {a k q : Nat} {x : Int64} (h : q ≠ a) : (upL M a k x).2 q = M.2 q := by simp [upL, upRL, h]
theorem upL_i {M : MM} {a k : Nat} {x : Int64} : (upL M a k x).1 = M.1 := rfl
/-- an entry of the plan: an object (its class, its fields: an int, or the place of an object), a row of ints or longs, a row of objects -/
abbrev LE : Type := (Nat × List (Option Nat)) ⊕ ((Nat × Bool) ⊕ (Nat × List Nat))
abbrev EE : Type := va_G × (Nat → ClassId) × Nat × Nat × (Nat → Nat) × (Nat → Nat)
def fldV (B : Nat) (M : MM) (k j : Nat) : Option Nat → Value
  | none => .int (M.1 (B + k) j)
  | some r => .ref (B + r)
def entV (E : EE) (B : Nat) (M : MM) (k : Nat) : LE → va_E
  | .inl (ci, fs) => .inr (ci, fs.mapIdx (fldV B M k))
  | .inr (.inl (n, false)) => .inl (E.2.1 0, n, .inl (M.1 (B + k)))
  | .inr (.inl (n, true)) => .inl (E.2.1 1, n, .inr (.inl (M.2 (B + k))))
  | .inr (.inr (t, rs)) => .inl (E.2.1 t, rs.length, .inr (.inr (.inr (.inr (fun i => rs[i]?.map (fun r => B + r))))))
def plan : List LE := [
  .inl (6, [some 1, some 2, some 17, some 32, some 47, some 50, some 53, some 56, some 58, some 60, some 61, some 62, some 63, none, none]),
  .inr (.inr (2, [64, 66, 68, 70, 72, 74, 76, 78])),
  .inl (5, [some 3, some 4, none, none, none, none, none, none, none, none]),
  .inr (.inr (3, [5, 7, 9, 11, 13, 15])),
  .inr (.inl (10, false)),
  .inl (1, [none, none, none, some 6]),
  .inr (.inl (12, false)),
  .inl (1, [none, none, none, some 8]),
  .inr (.inl (12, false)),
  .inl (1, [none, none, none, some 10]),
  .inr (.inl (12, false)),
  .inl (1, [none, none, none, some 12]),
  .inr (.inl (12, false)),
  .inl (1, [none, none, none, some 14]),
  .inr (.inl (12, false)),
  .inl (1, [none, none, none, some 16]),
  .inr (.inl (12, false)),
  .inl (5, [some 18, some 19, none, none, none, none, none, none, none, none]),
  .inr (.inr (3, [20, 22, 24, 26, 28, 30])),
  .inr (.inl (10, false)),
  .inl (1, [none, none, none, some 21]),
  .inr (.inl (12, false)),
  .inl (1, [none, none, none, some 23]),
  .inr (.inl (12, false)),
  .inl (1, [none, none, none, some 25]),
  .inr (.inl (12, false)),
  .inl (1, [none, none, none, some 27]),
  .inr (.inl (12, false)),
  .inl (1, [none, none, none, some 29]),
  .inr (.inl (12, false)),
  .inl (1, [none, none, none, some 31]),
  .inr (.inl (12, false)),
  .inl (5, [some 33, some 34, none, none, none, none, none, none, none, none]),
  .inr (.inr (3, [35, 37, 39, 41, 43, 45])),
  .inr (.inl (10, false)),
  .inl (1, [none, none, none, some 36]),
  .inr (.inl (12, false)),
  .inl (1, [none, none, none, some 38]),
  .inr (.inl (12, false)),
  .inl (1, [none, none, none, some 40]),
  .inr (.inl (12, false)),
  .inl (1, [none, none, none, some 42]),
  .inr (.inl (12, false)),
  .inl (1, [none, none, none, some 44]),
  .inr (.inl (12, false)),
  .inl (1, [none, none, none, some 46]),
  .inr (.inl (12, false)),
  .inl (2, [some 48, none, none, none, none, none, none]),
  .inl (1, [none, none, none, some 49]),
  .inr (.inl (12, false)),
  .inl (2, [some 51, none, none, none, none, none, none]),
  .inl (1, [none, none, none, some 52]),
  .inr (.inl (12, false)),
  .inl (3, [some 32, some 47, some 54, some 55, none, none, none]),
  .inr (.inl (160, false)),
  .inr (.inl (3, false)),
  .inl (0, [some 57, none, none, none, none]),
  .inr (.inl (20, false)),
  .inl (1, [none, none, none, some 59]),
  .inr (.inl (12, false)),
  .inr (.inl (8, false)),
  .inr (.inl (25, false)),
  .inr (.inl (5, false)),
  .inr (.inl (5, false)),
  .inl (4, [some 65, none, none, none]),
  .inr (.inl (160, true)),
  .inl (4, [some 67, none, none, none]),
  .inr (.inl (160, true)),
  .inl (4, [some 69, none, none, none]),
  .inr (.inl (160, true)),
  .inl (4, [some 71, none, none, none]),
  .inr (.inl (160, true)),
  .inl (4, [some 73, none, none, none]),
  .inr (.inl (160, true)),
  .inl (4, [some 75, none, none, none]),
  .inr (.inl (160, true)),
  .inl (4, [some 77, none, none, none]),
  .inr (.inl (160, true)),
  .inl (4, [some 79, none, none, none]),
  .inr (.inl (160, true)),
  .inl (7, [none, none, none, none, none, none, none, none, none, some 81, some 82, some 83, some 84, some 85, some 86, some 87, some 88, some 89, some 90, some 91, some 92, some 93, some 94, none, none, none, none, none, some 95, some 96, some 97, some 98, none, none, none, none, none, some 99, some 100, none, some 101, none, none]),
  .inr (.inl (8, false)),
  .inr (.inl (6, false)),
  .inr (.inl (6, false)),
  .inr (.inl (6, false)),
  .inr (.inl (72, false)),
  .inr (.inl (10, false)),
  .inr (.inl (8, false)),
  .inr (.inl (8, false)),
  .inr (.inl (8, false)),
  .inr (.inl (8, false)),
  .inr (.inl (1280, true)),
  .inr (.inl (160, true)),
  .inr (.inl (43, false)),
  .inr (.inl (3, false)),
  .inr (.inl (120, false)),
  .inr (.inl (120, false)),
  .inr (.inl (12, false)),
  .inr (.inl (12, false)),
  .inr (.inl (5, false)),
  .inr (.inl (5, false)),
  .inr (.inl (20, false))]
def wld (E : EE) (B : Nat) (M : MM) : va_W := plan.mapIdx (fun k le => (B + k, entV E B M k le))
def AA (B : Nat) : Nat → Prop := fun q => B ≤ q
def tysE (E : EE) : List (ClassId × FieldType) := [(E.2.1 0, .int), (E.2.1 1, .long), (E.2.1 2, .object "DunkedBiscuits$Shelf"), (E.2.1 3, .object "DunkedBiscuits$Biscuit")]
def tbN : List Cond := [
  Cond.methodLinkNest "DunkedBiscuits$State" (34 : Nat) ({ cls := "DunkedBiscuits$Biscuit", name := "<init>", desc := "()V" } : MethodName) "DunkedBiscuits",
  Cond.methodLinkNest "DunkedBiscuits" (30 : Nat) ({ cls := "DunkedBiscuits$Dunk", name := "<init>", desc := "()V" } : MethodName) "DunkedBiscuits",
  Cond.methodLinkNest "DunkedBiscuits$Dunk" (11 : Nat) ({ cls := "DunkedBiscuits$Biscuit", name := "<init>", desc := "()V" } : MethodName) "DunkedBiscuits",
  Cond.methodLinkNest "DunkedBiscuits" (49 : Nat) ({ cls := "DunkedBiscuits$Act", name := "<init>", desc := "()V" } : MethodName) "DunkedBiscuits",
  Cond.methodLinkNest "DunkedBiscuits" (56 : Nat) ({ cls := "DunkedBiscuits$Biscuit", name := "<init>", desc := "()V" } : MethodName) "DunkedBiscuits",
  Cond.methodLinkNest "DunkedBiscuits" (78 : Nat) ({ cls := "DunkedBiscuits$Shelf", name := "<init>", desc := "()V" } : MethodName) "DunkedBiscuits",
  Cond.fieldLinkNest "DunkedBiscuits$Biscuit" (34 : Nat) "DunkedBiscuits" "ABOVE" "[I" "DunkedBiscuits",
  Cond.methodLinkNest "DunkedBiscuits$Reader" (101 : Nat) ({ cls := "DunkedBiscuits", name := "isWithin", desc := "(III)Z" } : MethodName) "DunkedBiscuits",
  Cond.methodLinkNest "DunkedBiscuits$State" (71 : Nat) ({ cls := "DunkedBiscuits", name := "isWithin", desc := "(III)Z" } : MethodName) "DunkedBiscuits",
  Cond.methodLinkNest "DunkedBiscuits" (325 : Nat) ({ cls := "DunkedBiscuits$Act", name := "run", desc := "(LDunkedBiscuits$Act;IIII)I" } : MethodName) "DunkedBiscuits",
  Cond.methodLinkNest "DunkedBiscuits$Act" (43 : Nat) ({ cls := "DunkedBiscuits", name := "isWithin", desc := "(III)Z" } : MethodName) "DunkedBiscuits",
  Cond.fieldLinkNest "DunkedBiscuits$Act" (26 : Nat) "DunkedBiscuits" "ABOVE" "[I" "DunkedBiscuits"]
def fAb : Nat → Int32 := fun j => ([-1, 0, 0, 1, 0, 2, 4] : List Int32).getD j 0
def fBo : Nat → Int32 := fun j => ([10, 11, 12, 20, 0, 0, 0, 30, 0, 0, 40, 0, 51, 0, 50, 0, 0, 60, 70, 71, 0] : List Int32).getD j 0
def sIx : Nat → Nat := fun i => ([108, 110, 112, 114, 116, 118, 120] : List Nat).getD i 0
def sTx : Nat → String := fun i => (["biscuit", "wet", "heat", "loss", "tea", "worth", "dip"] : List String).getD i ""
def sLen : List Nat := [7, 3, 4, 4, 3, 5, 3]
def sByt : List (List Int32) := [[98, 105, 115, 99, 117, 105, 116], [119, 101, 116], [104, 101, 97, 116], [108, 111, 115, 115], [116, 101, 97], [119, 111, 114, 116, 104], [100, 105, 112]]
def EV (E : EE) (B : Nat) (s : State) : Prop :=
  (∀ w ∈ tbG, ∀ a, w.before a s = true) ∧ (∀ w ∈ tbN, va_Nw w s) ∧ va_K E.1 vwCl (tysE E) s ∧
  (va_Z "DunkedBiscuits" "ABOVE" "[I" (.ref E.2.2.1) (AA B) s s.heap ∧ va_T .int E.2.2.1 7 (fun j => .int (fAb j)) (AA B) s s.heap ∧
   va_Z "DunkedBiscuits$Act" "BODIES" "[I" (.ref E.2.2.2.1) (AA B) s s.heap ∧ va_T .int E.2.2.2.1 21 (fun j => .int (fBo j)) (AA B) s s.heap) ∧
  ((∀ i, i < 7 → vk_R RX3 (sIx i) (sTx i) (E.2.2.2.2.1 i) s) ∧ vk_S 7 sLen sByt E.2.2.2.2.1 E.2.2.2.2.2 (AA B) s s.heap)
theorem tbN_warm : ∀ w ∈ tbN, ∀ {s U : State}, s.WarmedH U.vm → va_Nw w s → va_Nw w U := by
  intro w hw s U hW h
  simp only [tbN, List.mem_cons, List.not_mem_nil, or_false] at hw
  rcases hw with rfl | rfl | rfl | rfl | rfl | rfl | rfl | rfl | rfl | rfl | rfl | rfl <;> first | exact va_Nw.warmM hW h | exact va_Nw.warmF hW h
theorem tbN_tab : ∀ w ∈ tbN, w.onTables = true := by decide +kernel
theorem EV.same {E : EE} {B : Nat} {u U : State} (hv : u.vm = U.vm) (hh : u.heap = U.heap) (h : EV E B u) : EV E B U := by
  obtain ⟨h1, h2, h3, ⟨h4, h5, h6, h7⟩, h8, h9⟩ := h
  have ha : u.vm.Alike U.vm := by rw [hv]; exact Vm.Alike.refl _
  refine ⟨fun w hw a => va_tabs (tg_ok hw).1 hv (h1 w hw a), fun w hw => va_Nw.same (tbN_tab w hw) hv (h2 w hw), va_K.moved ha h3, ⟨?_, ?_, ?_, ?_⟩, fun i hi => vk_R.same hv.symm (h8 i hi), ?_⟩
  · rw [← hh]; exact va_Z.moved ha h4
  · rw [← hh]; exact va_T.moved ha h5
  · rw [← hh]; exact va_Z.moved ha h6
  · rw [← hh]; exact va_T.moved ha h7
  · rw [← hh]; exact vk_S.moved ha h9
theorem EV.warm {E : EE} {B : Nat} {s U : State} {H : Heap} {locs : List Loc} (hW : s.WarmedH U.vm) (hU : U.heap = H) (hS : va_S (AA B) s.heap H locs) (h : EV E B s) : EV E B U := by
  obtain ⟨h1, h2, h3, ⟨h4, h5, h6, h7⟩, h8, h9⟩ := h
  have hq : ∀ a : Nat, a < s.heap.size → ¬ AA B a → U.heap[a]? = s.heap[a]? := fun a x y => by rw [hU]; exact hS.2.1 a x y
  refine ⟨fun w hw a => word_at hW (Or.inl (by simp [tg_ok hw])) (h1 w hw a), fun w hw => tbN_warm w hw hW (h2 w hw), va_K.moved hW.alike h3, ⟨?_, ?_, ?_, ?_⟩, fun i hi => vk_R.warm hW (h8 i hi), ?_⟩
  · exact (va_Z.moved hW.alike h4).kept hq
  · exact (va_T.moved hW.alike h5).kept hq
  · exact (va_Z.moved hW.alike h6).kept hq
  · exact (va_T.moved hW.alike h7).kept hq
  · exact (vk_S.moved hW.alike h9).kept hq
def Rep (E : EE) (B : Nat) (M : MM) (H : Heap) : Prop := va_P E.1 vwCl (wld E B M) H
theorem wld_at {E : EE} {B : Nat} {M : MM} {k : Nat} {le : LE} (h : plan[k]? = some le) : (wld E B M)[k]? = some (B + k, entV E B M k le) := by
  simp [wld, List.getElem?_mapIdx, h]
theorem wld_D {E : EE} {B : Nat} {M : MM} : va_D (AA B) (wld E B M) := by
  have key : ∀ (k : Nat) (q : Nat × va_E), (wld E B M)[k]? = some q → q.1 = B + k := by
    intro k q h
    simp only [wld, List.getElem?_mapIdx, Option.map_eq_some_iff] at h
    obtain ⟨le, -, rfl⟩ := h
    rfl
  refine ⟨fun i j p q hi hj e => ?_, fun k q h => ?_⟩
  · rw [key i p hi, key j q hj] at e
    omega
  · rw [key k q h]
    exact Nat.le_add_right _ _
theorem entV_off {E : EE} {B : Nat} {M M' : MM} {k : Nat} (h1 : M'.1 (B + k) = M.1 (B + k)) (h2 : M'.2 (B + k) = M.2 (B + k)) (le : LE) : entV E B M' k le = entV E B M k le := by
  match le with
  | .inl (ci, fs) =>
    simp only [entV]
    congr 2
    apply List.ext_getElem? 
    intro i
    simp only [List.getElem?_mapIdx]
    cases fs[i]? with
    | none => rfl
    | some o => cases o <;> simp [fldV, h1]
  | .inr (.inl (n, false)) => simp [entV, h1]
  | .inr (.inl (n, true)) => simp [entV, h2]
  | .inr (.inr (t, rs)) => rfl
theorem wld_set {E : EE} {B : Nat} {M M' : MM} {k : Nat} {le : LE} {e : va_E} (h : plan[k]? = some le) (he : entV E B M' k le = e) (ho : ∀ q, q ≠ k → M'.1 (B + q) = M.1 (B + q) ∧ M'.2 (B + q) = M.2 (B + q)) : (wld E B M).set k (B + k, e) = wld E B M' := by
  subst he
  apply List.ext_getElem?
  intro i
  have hl : k < plan.length := (List.getElem?_eq_some_iff.mp h).1
  by_cases hi : i = k
  · subst hi
    rw [wld_at h, List.getElem?_set_self (by simp [wld]; exact hl)]
  · rw [List.getElem?_set_ne (Ne.symm hi)]
    simp only [wld, List.getElem?_mapIdx]
    cases plan[i]? with
    | none => rfl
    | some le2 => simp [entV_off (ho i hi).1 (ho i hi).2]
/-! locals: the last written first -/
def lvGet : List (Nat × Value) → Nat → Option Value
  | [], _ => none
  | (j, v) :: t, i => bif Nat.beq j i then some v else bif (Nat.beq v.category 2 && Nat.beq (j + 1) i) then none else lvGet t i
def okS (lv : List (Nat × Value)) (i : Nat) : Bool := match i with
  | 0 => true
  | j + 1 => match lvGet lv j with
    | some v => Nat.beq v.category 1
    | none => true
def LV (ls : Array Slot) (nL : Nat) (lv : List (Nat × Value)) : Prop := ls.size = nL ∧ lv_wf ls ∧ ∀ i v, lvGet lv i = some v → ls[i]? = some (.val v)
theorem lvGet_mem : ∀ {lv : List (Nat × Value)} {i : Nat} {v : Value}, lvGet lv i = some v → (i, v) ∈ lv
  | (j, w) :: t, i, v, h => by
    simp only [lvGet] at h
    cases e : Nat.beq j i with
    | true =>
      rw [e] at h
      have := Nat.eq_of_beq_eq_true e
      simp at h
      subst this; subst h
      exact List.mem_cons_self
    | false =>
      rw [e] at h
      cases e2 : (Nat.beq w.category 2 && Nat.beq (j + 1) i) with
      | true => rw [e2] at h; simp at h
      | false => rw [e2] at h; exact List.mem_cons_of_mem _ (lvGet_mem h)
theorem LV.of {ls : Array Slot} {nL : Nat} {l : List (Nat × Value)} (h : lv_has ls nL l) : LV ls nL l := ⟨h.1, h.2.1, fun i v hv => h.2.2 (i, v) (lvGet_mem hv)⟩
def visL (nL : Nat) (lv : List (Nat × Value)) : List (Nat × Value) := (List.range nL).filterMap (fun j => (lvGet lv j).map (fun w => (j, w)))
theorem visL_mem {nL : Nat} {lv : List (Nat × Value)} {j : Nat} {w : Value} : (j, w) ∈ visL nL lv ↔ j < nL ∧ lvGet lv j = some w := by
  simp only [visL, List.mem_filterMap, List.mem_range, Option.map_eq_some_iff, Prod.mk.injEq]
  constructor
  · rintro ⟨a, h1, b, h2, h3, h4⟩
    subst h3; subst h4
    exact ⟨h1, h2⟩
  · rintro ⟨h1, h2⟩
    exact ⟨j, h1, w, h2, rfl, rfl⟩
theorem LV.has {ls : Array Slot} {nL : Nat} {lv : List (Nat × Value)} (h : LV ls nL lv) : lv_has ls nL (visL nL lv) := by
  refine ⟨h.1, h.2.1, ?_⟩
  rintro ⟨j, w⟩ hq
  exact h.2.2 j w (visL_mem.mp hq).2
theorem LV.lt {ls : Array Slot} {nL : Nat} {lv : List (Nat × Value)} (h : LV ls nL lv) {i : Nat} {v : Value} (hv : lvGet lv i = some v) : i < nL := by
  rw [← h.1]
  exact (Array.getElem?_eq_some_iff.mp (h.2.2 i v hv)).1
theorem LV.st1 {ls ls' : Array Slot} {nL : Nat} {lv : List (Nat × Value)} {i : Nat} {v : Value} (hc : v.category = 1) (h : LV ls nL lv) (hk : okS lv i = true) (h' : lv_has ls' nL ((i, v) :: (visL nL lv).filter (fun q => !(q.1 == i) && !(q.1 + 1 == i && q.2.category == 2)))) : LV ls' nL ((i, v) :: lv) := by
  refine ⟨h'.1, h'.2.1, fun j w hw => ?_⟩
  simp only [lvGet, hc] at hw
  cases e : Nat.beq i j with
  | true =>
    rw [e] at hw
    have := Nat.eq_of_beq_eq_true e
    subst this
    simp at hw
    subst hw
    exact h'.2.2 (i, v) List.mem_cons_self
  | false =>
    rw [e] at hw
    simp at hw
    refine h'.2.2 (j, w) (List.mem_cons_of_mem _ (List.mem_filter.mpr ⟨visL_mem.mpr ⟨h.lt hw, hw⟩, ?_⟩))
    have hne : ¬ j = i := fun q => by rw [q] at e; simp at e
    simp only [Bool.and_eq_true, Bool.not_eq_true', beq_eq_false_iff_ne, ne_eq, Bool.and_eq_false_iff]
    refine ⟨hne, ?_⟩
    by_cases h2 : j + 1 = i
    · right
      subst h2
      have hw : lvGet lv j = some w := hw
      have hk3 : (match lvGet lv j with
        | some v => Nat.beq v.category 1
        | none => true) = true := hk
      rw [hw] at hk3
      have hk2 : Nat.beq w.category 1 = true := hk3
      have := Nat.eq_of_beq_eq_true hk2
      omega
    · exact Or.inl h2
theorem LV.st2 {ls ls' : Array Slot} {nL : Nat} {lv : List (Nat × Value)} {i : Nat} {x : Int64} (h : LV ls nL lv) (hk : okS lv i = true) (h' : lv_has ls' nL ((i, .long x) :: (visL nL lv).filter (fun q => !(q.1 == i) && (!(q.1 == i + 1) && !(q.1 + 1 == i && q.2.category == 2))))) : LV ls' nL ((i, .long x) :: lv) := by
  refine ⟨h'.1, h'.2.1, fun j w hw => ?_⟩
  simp only [lvGet] at hw
  cases e : Nat.beq i j with
  | true =>
    rw [e] at hw
    have := Nat.eq_of_beq_eq_true e
    subst this
    simp at hw
    subst hw
    exact h'.2.2 (i, .long x) List.mem_cons_self
  | false =>
    rw [e] at hw
    cases e2 : Nat.beq (i + 1) j with
    | true => rw [e2] at hw; simp [Value.category] at hw
    | false =>
      rw [e2] at hw
      simp at hw
      refine h'.2.2 (j, w) (List.mem_cons_of_mem _ (List.mem_filter.mpr ⟨visL_mem.mpr ⟨h.lt hw, hw⟩, ?_⟩))
      have hne : ¬ j = i := fun q => by rw [q] at e; simp at e
      have hne2 : ¬ j = i + 1 := fun q => by rw [q] at e2; simp at e2
      simp only [Bool.and_eq_true, Bool.not_eq_true', beq_eq_false_iff_ne, ne_eq, Bool.and_eq_false_iff]
      refine ⟨hne, hne2, ?_⟩
      by_cases h2 : j + 1 = i
      · right
        subst h2
        have hw : lvGet lv j = some w := hw
        have hk3 : (match lvGet lv j with
          | some v => Nat.beq v.category 1
          | none => true) = true := hk
        rw [hw] at hk3
        have hk2 : Nat.beq w.category 1 = true := hk3
        have := Nat.eq_of_beq_eq_true hk2
        omega
      · exact Or.inl h2
/-- fewer locals: those that are listed -/
def lvLe (lv lv' : List (Nat × Value)) : Prop := ∀ i v, lvGet lv' i = some v → lvGet lv i = some v
theorem LV.le {ls : Array Slot} {nL : Nat} {lv lv' : List (Nat × Value)} (h : LV ls nL lv) (hl : lvLe lv lv') : LV ls nL lv' := ⟨h.1, h.2.1, fun i v hv => h.2.2 i v (hl i v hv)⟩
theorem lvLe_0 {lv : List (Nat × Value)} : lvLe lv [] := fun i v h => by simp [lvGet] at h
theorem lvLe_c {lv t : List (Nat × Value)} {i : Nat} {v : Value} (h : lvGet lv i = some v) (ht : lvLe lv t) : lvLe lv ((i, v) :: t) := by
  intro j w hw
  simp only [lvGet] at hw
  cases e : Nat.beq i j with
  | true =>
    rw [e] at hw
    have := Nat.eq_of_beq_eq_true e
    simp at hw
    subst this; subst hw
    exact h
  | false =>
    rw [e] at hw
    cases e2 : (Nat.beq v.category 2 && Nat.beq (i + 1) j) with
    | true => rw [e2] at hw; simp at hw
    | false => rw [e2] at hw; exact ht j w hw

/-- the frame's kind: its class, its locals, what it returns, its room, what is new so far, its end -/
abbrev FK : Type := String × Nat × Option FieldType × Room × Nat × Nat × (List Frame → Array Value → State → State → Prop)
def Bd (E : EE) (B : Nat) (code : ByteArray) (fk : FK) (p : Program) (s : State) (m : MethodId) (meth : Method) (c : Code) : Prop :=
  p.tables.exec = Jvm.exec ∧ c.code = code ∧ c.maxLocals = fk.2.1 ∧ meth.sig.returnType = fk.2.2.1 ∧ meth.locks = false ∧ s.vm.findClass fk.1 = some m.cls ∧ EV E B s ∧ (fk.2.2.2.2.1 ≤ fk.2.2.2.1.cells ∧ fk.2.2.2.2.2.1 ≤ fk.2.2.2.1.slots)
def G (E : EE) (B : Nat) (code : ByteArray) (fk : FK) (pc : Nat) (lv : List (Nat × Value)) (st : List Value) (M : MM) : Prop :=
  ∀ (p : Program) (l : Launch) (e : Env) (s : State) (m : MethodId) (args : Array Value) (below : List Frame) (meth : Method) (c : Code) (H : Heap) (locs : List Loc) (ls : Array Slot),
    Bd E B code fk p s m meth c → Rep E B M H → va_S (AA B) s.heap H locs → LV ls fk.2.1 lv →
    W p l e fk.2.2.2.1 s m args below meth c H locs fk.2.2.2.2.1 fk.2.2.2.2.2.1 (fk.2.2.2.2.2.2 below args s) (F0 m pc ls st)
def rmD (d : Nat) : Room := { frames := d, cells := 0, slots := 0, locals := 40 * d }
def PcO (E : EE) (B : Nat) (As : List Value) (M : MM) : Array Value → State → Prop := fun a U => a = As.toArray ∧ EV E B U ∧ Rep E B M U.heap
def QcO (E : EE) (B : Nat) (F : Option Value → MM → Prop) : Array Value → State → Outcome → State → Prop := fun _ st o t => (∃ (r : Option Value) (M' : MM), o = .returned r ∧ F r M' ∧ Rep E B M' t.heap) ∧ va_F (AA B) st t
def KM (E : EE) (B : Nat) (F : Option Value → MM → Prop) : List Frame → Array Value → State → State → Prop := fun below args s => MQ below (QcO E B F) args s 0 0 (AA B)
/-- a method's contract: from memory M with the arguments As it comes to its end with F -/
def Ct (E : EE) (B : Nat) (y : MethodName) (code : ByteArray) (nL : Nat) (ret : Option FieldType) (d : Nat) (As : List Value) (M : MM) (F : Option Value → MM → Prop) : Prop :=
  ∀ l : Launch, Met l y (Cond.code y code nL ret :: tbG) (rmD d) (PcO E B As M) (QcO E B F) 0 0 (AA B)
section GG
variable {E : EE} {B : Nat} {code : ByteArray} {fk : FK} {pc : Nat} {lv : List (Nat × Value)} {st : List Value} {M : MM}
theorem Ct.of {y : MethodName} {own : String} {nL : Nat} {ret : Option FieldType} {d : Nat} {As : List Value} {F : Option Value → MM → Prop} (hy : plainName y.cls = true) (hown : y.cls = own) (hn : (lg_sl As).length ≤ nL)
    (h : G E B code (own, nL, ret, rmD d, 0, 0, KM E B F) 0 (lv_args 0 As) [] M) : Ct E B y code nL ret d As M F := by
  intro l
  refine Met.ofW (cc := code) (maxL := nL) (ret := ret) hy rfl ?_
  intro p e s m args below meth c s₁ hB hml hv
  obtain ⟨rfl, hE, hR⟩ := hv
  have hl := lv_entry As (n := nL) hn
  rw [lg_entry_eq]
  exact h p l e s m As.toArray below meth c s.heap [] _ ⟨hB.exec, hB.bytes, hml, hB.returns, hB.notSynchronized, by rw [← hown]; exact findClass_of_methodNamed hB.named, hE, Nat.le_refl _, Nat.le_refl _⟩ hR va_S.rf (LV.of hl)
theorem g_le {lv' : List (Nat × Value)} (hl : lvLe lv lv') (k : G E B code fk pc lv' st M) : G E B code fk pc lv st M := fun p l e s m args below meth c H locs ls hB hR hS hL => k p l e s m args below meth c H locs ls hB hR hS (hL.le hl)
theorem g_eq {pc' : Nat} {lv' : List (Nat × Value)} {st' : List Value} {M' : MM} (h1 : pc = pc') (h2 : lv = lv') (h3 : st = st') (h4 : M = M') (k : G E B code fk pc' lv' st' M') : G E B code fk pc lv st M := by
  subst h1; subst h2; subst h3; subst h4; exact k
theorem g_iconst {n : Int} {v : Int32} (hd : decode code pc = .ok (.iconst n, 1)) (hv : Int32.ofInt n = v) (k : G E B code fk (pc + 1) lv (.int v :: st) M) : G E B code fk pc lv st M := by
  intro p l e s m args below meth c H locs ls hB hR hS hL
  exact lv_iconst hB.1 hB.2.1 hd hv (k p l e s m args below meth c H locs ls hB hR hS hL)
theorem g_bipush {n : Int} {v : Int32} (hd : decode code pc = .ok (.bipush n, 2)) (hv : (Int8.ofInt n).toInt32 = v) (k : G E B code fk (pc + 2) lv (.int v :: st) M) : G E B code fk pc lv st M := by
  intro p l e s m args below meth c H locs ls hB hR hS hL
  exact lv_bipush hB.1 hB.2.1 hd hv (k p l e s m args below meth c H locs ls hB hR hS hL)
theorem g_sipush {n : Int} {v : Int32} (hd : decode code pc = .ok (.sipush n, 3)) (hv : (Int16.ofInt n).toInt32 = v) (k : G E B code fk (pc + 3) lv (.int v :: st) M) : G E B code fk pc lv st M := by
  intro p l e s m args below meth c H locs ls hB hR hS hL
  exact lv_sipush hB.1 hB.2.1 hd hv (k p l e s m args below meth c H locs ls hB hR hS hL)
theorem g_lconst {n : Fin 2} {v : Int64} (hd : decode code pc = .ok (.lconst n, 1)) (hv : Int64.ofNat (n : Nat) = v) (k : G E B code fk (pc + 1) lv (.long v :: st) M) : G E B code fk pc lv st M := by
  intro p l e s m args below meth c H locs ls hB hR hS hL
  exact lv_lconst hB.1 hB.2.1 hd hv (k p l e s m args below meth c H locs ls hB hR hS hL)
theorem g_iload {i : Nat} {x : Int32} (hd : decode code pc = .ok (.iload i, 2)) (hl : lvGet lv i = some (.int x)) (k : G E B code fk (pc + 2) lv (.int x :: st) M) : G E B code fk pc lv st M := by
  intro p l e s m args below meth c H locs ls hB hR hS hL
  exact lv_iload hB.1 hB.2.1 hd (hL.2.2 _ _ hl) (k p l e s m args below meth c H locs ls hB hR hS hL)
theorem g_iload_n {k0 : Fin 4} {i : Nat} {x : Int32} (hd : decode code pc = .ok (.iload_n k0, 1)) (hi : (k0 : Nat) = i) (hl : lvGet lv i = some (.int x)) (k : G E B code fk (pc + 1) lv (.int x :: st) M) : G E B code fk pc lv st M := by
  intro p l e s m args below meth c H locs ls hB hR hS hL
  exact lv_iload_n hB.1 hB.2.1 hd hi (hL.2.2 _ _ hl) (k p l e s m args below meth c H locs ls hB hR hS hL)
theorem g_aload {i : Nat} {x : Nat} (hd : decode code pc = .ok (.aload i, 2)) (hl : lvGet lv i = some (.ref x)) (k : G E B code fk (pc + 2) lv (.ref x :: st) M) : G E B code fk pc lv st M := by
  intro p l e s m args below meth c H locs ls hB hR hS hL
  exact lv_aload hB.1 hB.2.1 hd (hL.2.2 _ _ hl) (k p l e s m args below meth c H locs ls hB hR hS hL)
theorem g_aload_n {k0 : Fin 4} {i : Nat} {x : Nat} (hd : decode code pc = .ok (.aload_n k0, 1)) (hi : (k0 : Nat) = i) (hl : lvGet lv i = some (.ref x)) (k : G E B code fk (pc + 1) lv (.ref x :: st) M) : G E B code fk pc lv st M := by
  intro p l e s m args below meth c H locs ls hB hR hS hL
  exact lv_aload_n hB.1 hB.2.1 hd hi (hL.2.2 _ _ hl) (k p l e s m args below meth c H locs ls hB hR hS hL)
theorem g_lload {i : Nat} {x : Int64} (hd : decode code pc = .ok (.lload i, 2)) (hl : lvGet lv i = some (.long x)) (k : G E B code fk (pc + 2) lv (.long x :: st) M) : G E B code fk pc lv st M := by
  intro p l e s m args below meth c H locs ls hB hR hS hL
  exact lv_lload hB.1 hB.2.1 hd (hL.2.2 _ _ hl) (k p l e s m args below meth c H locs ls hB hR hS hL)
theorem g_lload_n {k0 : Fin 4} {i : Nat} {x : Int64} (hd : decode code pc = .ok (.lload_n k0, 1)) (hi : (k0 : Nat) = i) (hl : lvGet lv i = some (.long x)) (k : G E B code fk (pc + 1) lv (.long x :: st) M) : G E B code fk pc lv st M := by
  intro p l e s m args below meth c H locs ls hB hR hS hL
  exact lv_lload_n hB.1 hB.2.1 hd hi (hL.2.2 _ _ hl) (k p l e s m args below meth c H locs ls hB hR hS hL)
theorem g_istore {i : Nat} {x : Int32} (hd : decode code pc = .ok (.istore i, 2)) (hn : i < fk.2.1) (hk : okS lv i = true) (k : G E B code fk (pc + 2) ((i, .int x) :: lv) st M) : G E B code fk pc lv (.int x :: st) M := by
  intro p l e s m args below meth c H locs ls hB hR hS hL
  exact lv_istore hB.1 hB.2.1 hd hL.has hn rfl (fun ls2 h2 => k p l e s m args below meth c H locs ls2 hB hR hS (LV.st1 rfl hL hk h2))
theorem g_istore_n {k0 : Fin 4} {i : Nat} {x : Int32} (hd : decode code pc = .ok (.istore_n k0, 1)) (hi : (k0 : Nat) = i) (hn : i < fk.2.1) (hk : okS lv i = true) (k : G E B code fk (pc + 1) ((i, .int x) :: lv) st M) : G E B code fk pc lv (.int x :: st) M := by
  intro p l e s m args below meth c H locs ls hB hR hS hL
  exact lv_istore_n hB.1 hB.2.1 hd hi hL.has hn rfl (fun ls2 h2 => k p l e s m args below meth c H locs ls2 hB hR hS (LV.st1 rfl hL hk h2))
theorem g_astore {i : Nat} {x : Nat} (hd : decode code pc = .ok (.astore i, 2)) (hn : i < fk.2.1) (hk : okS lv i = true) (k : G E B code fk (pc + 2) ((i, .ref x) :: lv) st M) : G E B code fk pc lv (.ref x :: st) M := by
  intro p l e s m args below meth c H locs ls hB hR hS hL
  exact lv_astore hB.1 hB.2.1 hd hL.has hn rfl (fun ls2 h2 => k p l e s m args below meth c H locs ls2 hB hR hS (LV.st1 rfl hL hk h2))
theorem g_astore_n {k0 : Fin 4} {i : Nat} {x : Nat} (hd : decode code pc = .ok (.astore_n k0, 1)) (hi : (k0 : Nat) = i) (hn : i < fk.2.1) (hk : okS lv i = true) (k : G E B code fk (pc + 1) ((i, .ref x) :: lv) st M) : G E B code fk pc lv (.ref x :: st) M := by
  intro p l e s m args below meth c H locs ls hB hR hS hL
  exact lv_astore_n hB.1 hB.2.1 hd hi hL.has hn rfl (fun ls2 h2 => k p l e s m args below meth c H locs ls2 hB hR hS (LV.st1 rfl hL hk h2))
theorem g_lstore {i : Nat} {x : Int64} (hd : decode code pc = .ok (.lstore i, 2)) (hn : i + 1 < fk.2.1) (hk : okS lv i = true) (k : G E B code fk (pc + 2) ((i, .long x) :: lv) st M) : G E B code fk pc lv (.long x :: st) M := by
  intro p l e s m args below meth c H locs ls hB hR hS hL
  exact lv_lstore hB.1 hB.2.1 hd hL.has hn rfl (fun ls2 h2 => k p l e s m args below meth c H locs ls2 hB hR hS (LV.st2 hL hk h2))
theorem g_iinc {i : Nat} {n : Int} {x v : Int32} (hd : decode code pc = .ok (.iinc i n, 3)) (hl : lvGet lv i = some (.int x)) (hv : x + Int32.ofInt n = v) (hk : okS lv i = true) (k : G E B code fk (pc + 3) ((i, .int v) :: lv) st M) : G E B code fk pc lv st M := by
  intro p l e s m args below meth c H locs ls hB hR hS hL
  obtain ⟨j, hj⟩ := List.getElem?_of_mem (visL_mem.mpr ⟨hL.lt hl, hl⟩)
  exact lv_iinc hB.1 hB.2.1 hd hL.has hj hv (hL.lt hl) rfl (fun ls2 h2 => k p l e s m args below meth c H locs ls2 hB hR hS (LV.st1 rfl hL hk h2))
theorem g_iadd {x y v : Int32} (hd : decode code pc = .ok (.iadd, 1)) (hv : x + y = v) (k : G E B code fk (pc + 1) lv (.int v :: st) M) : G E B code fk pc lv (.int y :: .int x :: st) M := by
  intro p l e s m args below meth c H locs ls hB hR hS hL
  exact lv_iadd hB.1 hB.2.1 hd (by rw [hv]; exact k p l e s m args below meth c H locs ls hB hR hS hL)
theorem g_isub {x y v : Int32} (hd : decode code pc = .ok (.isub, 1)) (hv : x - y = v) (k : G E B code fk (pc + 1) lv (.int v :: st) M) : G E B code fk pc lv (.int y :: .int x :: st) M := by
  intro p l e s m args below meth c H locs ls hB hR hS hL
  exact lv_isub hB.1 hB.2.1 hd (by rw [hv]; exact k p l e s m args below meth c H locs ls hB hR hS hL)
theorem g_imul {x y v : Int32} (hd : decode code pc = .ok (.imul, 1)) (hv : x * y = v) (k : G E B code fk (pc + 1) lv (.int v :: st) M) : G E B code fk pc lv (.int y :: .int x :: st) M := by
  intro p l e s m args below meth c H locs ls hB hR hS hL
  exact lv_imul hB.1 hB.2.1 hd (by rw [hv]; exact k p l e s m args below meth c H locs ls hB hR hS hL)
theorem g_ineg {x v : Int32} (hd : decode code pc = .ok (.ineg, 1)) (hv : -x = v) (k : G E B code fk (pc + 1) lv (.int v :: st) M) : G E B code fk pc lv (.int x :: st) M := by
  intro p l e s m args below meth c H locs ls hB hR hS hL
  exact lv_ineg hB.1 hB.2.1 hd (by rw [hv]; exact k p l e s m args below meth c H locs ls hB hR hS hL)
theorem g_iand {x y v : Int32} (hd : decode code pc = .ok (.iand, 1)) (hv : x &&& y = v) (k : G E B code fk (pc + 1) lv (.int v :: st) M) : G E B code fk pc lv (.int y :: .int x :: st) M := by
  intro p l e s m args below meth c H locs ls hB hR hS hL
  exact lv_iand hB.1 hB.2.1 hd (by rw [hv]; exact k p l e s m args below meth c H locs ls hB hR hS hL)
theorem g_ior {x y v : Int32} (hd : decode code pc = .ok (.ior, 1)) (hv : x ||| y = v) (k : G E B code fk (pc + 1) lv (.int v :: st) M) : G E B code fk pc lv (.int y :: .int x :: st) M := by
  intro p l e s m args below meth c H locs ls hB hR hS hL
  exact lv_ior hB.1 hB.2.1 hd (by rw [hv]; exact k p l e s m args below meth c H locs ls hB hR hS hL)
theorem g_ixor {x y v : Int32} (hd : decode code pc = .ok (.ixor, 1)) (hv : x ^^^ y = v) (k : G E B code fk (pc + 1) lv (.int v :: st) M) : G E B code fk pc lv (.int y :: .int x :: st) M := by
  intro p l e s m args below meth c H locs ls hB hR hS hL
  exact lv_ixor hB.1 hB.2.1 hd (by rw [hv]; exact k p l e s m args below meth c H locs ls hB hR hS hL)
theorem g_ishl {x y v : Int32} (hd : decode code pc = .ok (.ishl, 1)) (hv : x <<< (y &&& 31) = v) (k : G E B code fk (pc + 1) lv (.int v :: st) M) : G E B code fk pc lv (.int y :: .int x :: st) M := by
  intro p l e s m args below meth c H locs ls hB hR hS hL
  exact lv_ishl hB.1 hB.2.1 hd (by rw [hv]; exact k p l e s m args below meth c H locs ls hB hR hS hL)
theorem g_ishr {x y v : Int32} (hd : decode code pc = .ok (.ishr, 1)) (hv : x >>> (y &&& 31) = v) (k : G E B code fk (pc + 1) lv (.int v :: st) M) : G E B code fk pc lv (.int y :: .int x :: st) M := by
  intro p l e s m args below meth c H locs ls hB hR hS hL
  exact lv_ishr hB.1 hB.2.1 hd (by rw [hv]; exact k p l e s m args below meth c H locs ls hB hR hS hL)
theorem g_idiv {x y v : Int32} (hd : decode code pc = .ok (.idiv, 1)) (hne : ¬ y = 0) (hv : x / y = v) (k : G E B code fk (pc + 1) lv (.int v :: st) M) : G E B code fk pc lv (.int y :: .int x :: st) M := by
  intro p l e s m args below meth c H locs ls hB hR hS hL
  exact lv_idiv hB.1 hB.2.1 hd hne (by rw [hv]; exact k p l e s m args below meth c H locs ls hB hR hS hL)
theorem g_irem {x y v : Int32} (hd : decode code pc = .ok (.irem, 1)) (hne : ¬ y = 0) (hv : x - x / y * y = v) (k : G E B code fk (pc + 1) lv (.int v :: st) M) : G E B code fk pc lv (.int y :: .int x :: st) M := by
  intro p l e s m args below meth c H locs ls hB hR hS hL
  exact lv_irem hB.1 hB.2.1 hd hne (by rw [hv]; exact k p l e s m args below meth c H locs ls hB hR hS hL)
theorem g_land {x y v : Int64} (hd : decode code pc = .ok (.land, 1)) (hv : x &&& y = v) (k : G E B code fk (pc + 1) lv (.long v :: st) M) : G E B code fk pc lv (.long y :: .long x :: st) M := by
  intro p l e s m args below meth c H locs ls hB hR hS hL
  exact lv_land hB.1 hB.2.1 hd (by rw [hv]; exact k p l e s m args below meth c H locs ls hB hR hS hL)
theorem g_lor {x y v : Int64} (hd : decode code pc = .ok (.lor, 1)) (hv : x ||| y = v) (k : G E B code fk (pc + 1) lv (.long v :: st) M) : G E B code fk pc lv (.long y :: .long x :: st) M := by
  intro p l e s m args below meth c H locs ls hB hR hS hL
  exact lv_lor hB.1 hB.2.1 hd (by rw [hv]; exact k p l e s m args below meth c H locs ls hB hR hS hL)
theorem g_iushr {x y v : Int32} (hd : decode code pc = .ok (.iushr, 1)) (hv : (x.toUInt32 >>> (y.toUInt32 &&& Int32.toUInt32 31)).toInt32 = v) (k : G E B code fk (pc + 1) lv (.int v :: st) M) : G E B code fk pc lv (.int y :: .int x :: st) M := by
  intro p l e s m args below meth c H locs ls hB hR hS hL
  exact lv_iushr hB.1 hB.2.1 hd hv (k p l e s m args below meth c H locs ls hB hR hS hL)
theorem g_lshl {x v : Int64} {y : Int32} (hd : decode code pc = .ok (.lshl, 1)) (hv : x <<< (y.toInt64 &&& 63) = v) (k : G E B code fk (pc + 1) lv (.long v :: st) M) : G E B code fk pc lv (.int y :: .long x :: st) M := by
  intro p l e s m args below meth c H locs ls hB hR hS hL
  exact lv_lshl hB.1 hB.2.1 hd hv (k p l e s m args below meth c H locs ls hB hR hS hL)
theorem g_i2l {x : Int32} {v : Int64} (hd : decode code pc = .ok (.i2l, 1)) (hv : x.toInt64 = v) (k : G E B code fk (pc + 1) lv (.long v :: st) M) : G E B code fk pc lv (.int x :: st) M := by
  intro p l e s m args below meth c H locs ls hB hR hS hL
  exact lv_i2l hB.1 hB.2.1 hd hv (k p l e s m args below meth c H locs ls hB hR hS hL)
theorem g_l2i {x : Int64} {v : Int32} (hd : decode code pc = .ok (.l2i, 1)) (hv : x.toInt32 = v) (k : G E B code fk (pc + 1) lv (.int v :: st) M) : G E B code fk pc lv (.long x :: st) M := by
  intro p l e s m args below meth c H locs ls hB hR hS hL
  exact lv_l2i hB.1 hB.2.1 hd hv (k p l e s m args below meth c H locs ls hB hR hS hL)
theorem g_i2b {x v : Int32} (hd : decode code pc = .ok (.i2b, 1)) (hv : x.toInt8.toInt32 = v) (k : G E B code fk (pc + 1) lv (.int v :: st) M) : G E B code fk pc lv (.int x :: st) M := by
  intro p l e s m args below meth c H locs ls hB hR hS hL
  exact lv_i2b hB.1 hB.2.1 hd hv (k p l e s m args below meth c H locs ls hB hR hS hL)
theorem g_i2s {x v : Int32} (hd : decode code pc = .ok (.i2s, 1)) (hv : x.toInt16.toInt32 = v) (k : G E B code fk (pc + 1) lv (.int v :: st) M) : G E B code fk pc lv (.int x :: st) M := by
  intro p l e s m args below meth c H locs ls hB hR hS hL
  exact lv_i2s hB.1 hB.2.1 hd hv (k p l e s m args below meth c H locs ls hB hR hS hL)
theorem g_lcmp {x y : Int64} {v : Int32} (hd : decode code pc = .ok (.lcmp, 1)) (hv : lg_cmp x y = v) (k : G E B code fk (pc + 1) lv (.int v :: st) M) : G E B code fk pc lv (.long y :: .long x :: st) M := by
  intro p l e s m args below meth c H locs ls hB hR hS hL
  exact W.lcmp hB.1 hB.2.1 hd (by rw [hv]; exact k p l e s m args below meth c H locs ls hB hR hS hL)
theorem g_dup {va : Value} (hd : decode code pc = .ok (.dup, 1)) (h1 : va.category = 1) (k : G E B code fk (pc + 1) lv (va :: va :: st) M) : G E B code fk pc lv (va :: st) M := by
  intro p l e s m args below meth c H locs ls hB hR hS hL
  exact lv_dup hB.1 hB.2.1 hd h1 (k p l e s m args below meth c H locs ls hB hR hS hL)
theorem g_dup2 {va vb : Value} (hd : decode code pc = .ok (.dup2, 1)) (h1 : va.category = 1) (h2 : vb.category = 1) (k : G E B code fk (pc + 1) lv (va :: vb :: va :: vb :: st) M) : G E B code fk pc lv (va :: vb :: st) M := by
  intro p l e s m args below meth c H locs ls hB hR hS hL
  exact lv_dup2_11 hB.1 hB.2.1 hd h1 h2 (k p l e s m args below meth c H locs ls hB hR hS hL)
theorem g_dup_x1 {va vb : Value} (hd : decode code pc = .ok (.dup_x1, 1)) (h1 : va.category = 1) (h2 : vb.category = 1) (k : G E B code fk (pc + 1) lv (va :: vb :: va :: st) M) : G E B code fk pc lv (va :: vb :: st) M := by
  intro p l e s m args below meth c H locs ls hB hR hS hL
  exact lv_dup_x1 hB.1 hB.2.1 hd h1 h2 (k p l e s m args below meth c H locs ls hB hR hS hL)
theorem g_pop {va : Value} (hd : decode code pc = .ok (.pop, 1)) (h1 : va.category = 1) (k : G E B code fk (pc + 1) lv st M) : G E B code fk pc lv (va :: st) M := by
  intro p l e s m args below meth c H locs ls hB hR hS hL
  exact lv_pop hB.1 hB.2.1 hd h1 (k p l e s m args below meth c H locs ls hB hR hS hL)
theorem g_goto {off : Int} {tgt : Nat} (hd : decode code pc = .ok (.goto off, 3)) (ht : (pc : Int) + off = (tgt : Int)) (k : G E B code fk tgt lv st M) : G E B code fk pc lv st M := by
  intro p l e s m args below meth c H locs ls hB hR hS hL
  exact lv_goto hB.1 hB.2.1 hd ht (k p l e s m args below meth c H locs ls hB hR hS hL)
theorem g_icmp_lt {x y : Int32} {off : Int} {tgt : Nat} (hd : decode code pc = .ok (.if_icmp .lt off, 3)) (ht : (pc : Int) + off = (tgt : Int)) (k0 : x < y → G E B code fk tgt lv st M) (k1 : ¬ x < y → G E B code fk (pc + 3) lv st M) : G E B code fk pc lv (.int y :: .int x :: st) M := by
  intro p l e s m args below meth c H locs ls hB hR hS hL
  exact lv_icmp_lt hB.1 hB.2.1 hd ht (fun q => k0 q p l e s m args below meth c H locs ls hB hR hS hL) (fun q => k1 q p l e s m args below meth c H locs ls hB hR hS hL)
theorem g_icmp_gt {x y : Int32} {off : Int} {tgt : Nat} (hd : decode code pc = .ok (.if_icmp .gt off, 3)) (ht : (pc : Int) + off = (tgt : Int)) (k0 : y < x → G E B code fk tgt lv st M) (k1 : ¬ y < x → G E B code fk (pc + 3) lv st M) : G E B code fk pc lv (.int y :: .int x :: st) M := by
  intro p l e s m args below meth c H locs ls hB hR hS hL
  exact lv_icmp_gt hB.1 hB.2.1 hd ht (fun q => k0 q p l e s m args below meth c H locs ls hB hR hS hL) (fun q => k1 q p l e s m args below meth c H locs ls hB hR hS hL)
theorem g_icmp_ge {x y : Int32} {off : Int} {tgt : Nat} (hd : decode code pc = .ok (.if_icmp .ge off, 3)) (ht : (pc : Int) + off = (tgt : Int)) (k0 : y ≤ x → G E B code fk tgt lv st M) (k1 : ¬ y ≤ x → G E B code fk (pc + 3) lv st M) : G E B code fk pc lv (.int y :: .int x :: st) M := by
  intro p l e s m args below meth c H locs ls hB hR hS hL
  exact lv_icmp_ge hB.1 hB.2.1 hd ht (fun q => k0 q p l e s m args below meth c H locs ls hB hR hS hL) (fun q => k1 q p l e s m args below meth c H locs ls hB hR hS hL)
theorem g_icmp_le {x y : Int32} {off : Int} {tgt : Nat} (hd : decode code pc = .ok (.if_icmp .le off, 3)) (ht : (pc : Int) + off = (tgt : Int)) (k0 : x ≤ y → G E B code fk tgt lv st M) (k1 : ¬ x ≤ y → G E B code fk (pc + 3) lv st M) : G E B code fk pc lv (.int y :: .int x :: st) M := by
  intro p l e s m args below meth c H locs ls hB hR hS hL
  exact lv_icmp_le hB.1 hB.2.1 hd ht (fun q => k0 q p l e s m args below meth c H locs ls hB hR hS hL) (fun q => k1 q p l e s m args below meth c H locs ls hB hR hS hL)
theorem g_icmp_eq {x y : Int32} {off : Int} {tgt : Nat} (hd : decode code pc = .ok (.if_icmp .eq off, 3)) (ht : (pc : Int) + off = (tgt : Int)) (k0 : x = y → G E B code fk tgt lv st M) (k1 : ¬ x = y → G E B code fk (pc + 3) lv st M) : G E B code fk pc lv (.int y :: .int x :: st) M := by
  intro p l e s m args below meth c H locs ls hB hR hS hL
  exact lv_icmp_eq hB.1 hB.2.1 hd ht (fun q => k0 q p l e s m args below meth c H locs ls hB hR hS hL) (fun q => k1 q p l e s m args below meth c H locs ls hB hR hS hL)
theorem g_icmp_ne {x y : Int32} {off : Int} {tgt : Nat} (hd : decode code pc = .ok (.if_icmp .ne off, 3)) (ht : (pc : Int) + off = (tgt : Int)) (k0 : ¬ x = y → G E B code fk tgt lv st M) (k1 : x = y → G E B code fk (pc + 3) lv st M) : G E B code fk pc lv (.int y :: .int x :: st) M := by
  intro p l e s m args below meth c H locs ls hB hR hS hL
  exact lv_icmp_ne hB.1 hB.2.1 hd ht (fun q => k0 q p l e s m args below meth c H locs ls hB hR hS hL) (fun q => k1 q p l e s m args below meth c H locs ls hB hR hS hL)
theorem g_if_lt {x : Int32} {off : Int} {tgt : Nat} (hd : decode code pc = .ok (.ifCond .lt off, 3)) (ht : (pc : Int) + off = (tgt : Int)) (k0 : x < 0 → G E B code fk tgt lv st M) (k1 : ¬ x < 0 → G E B code fk (pc + 3) lv st M) : G E B code fk pc lv (.int x :: st) M := by
  intro p l e s m args below meth c H locs ls hB hR hS hL
  exact lv_if_lt hB.1 hB.2.1 hd ht (fun q => k0 q p l e s m args below meth c H locs ls hB hR hS hL) (fun q => k1 q p l e s m args below meth c H locs ls hB hR hS hL)
theorem g_if_gt {x : Int32} {off : Int} {tgt : Nat} (hd : decode code pc = .ok (.ifCond .gt off, 3)) (ht : (pc : Int) + off = (tgt : Int)) (k0 : 0 < x → G E B code fk tgt lv st M) (k1 : ¬ 0 < x → G E B code fk (pc + 3) lv st M) : G E B code fk pc lv (.int x :: st) M := by
  intro p l e s m args below meth c H locs ls hB hR hS hL
  exact lv_if_gt hB.1 hB.2.1 hd ht (fun q => k0 q p l e s m args below meth c H locs ls hB hR hS hL) (fun q => k1 q p l e s m args below meth c H locs ls hB hR hS hL)
theorem g_if_ge {x : Int32} {off : Int} {tgt : Nat} (hd : decode code pc = .ok (.ifCond .ge off, 3)) (ht : (pc : Int) + off = (tgt : Int)) (k0 : 0 ≤ x → G E B code fk tgt lv st M) (k1 : ¬ 0 ≤ x → G E B code fk (pc + 3) lv st M) : G E B code fk pc lv (.int x :: st) M := by
  intro p l e s m args below meth c H locs ls hB hR hS hL
  exact lv_if_ge hB.1 hB.2.1 hd ht (fun q => k0 q p l e s m args below meth c H locs ls hB hR hS hL) (fun q => k1 q p l e s m args below meth c H locs ls hB hR hS hL)
theorem g_if_le {x : Int32} {off : Int} {tgt : Nat} (hd : decode code pc = .ok (.ifCond .le off, 3)) (ht : (pc : Int) + off = (tgt : Int)) (k0 : x ≤ 0 → G E B code fk tgt lv st M) (k1 : ¬ x ≤ 0 → G E B code fk (pc + 3) lv st M) : G E B code fk pc lv (.int x :: st) M := by
  intro p l e s m args below meth c H locs ls hB hR hS hL
  exact lv_if_le hB.1 hB.2.1 hd ht (fun q => k0 q p l e s m args below meth c H locs ls hB hR hS hL) (fun q => k1 q p l e s m args below meth c H locs ls hB hR hS hL)
theorem g_if_eq {x : Int32} {off : Int} {tgt : Nat} (hd : decode code pc = .ok (.ifCond .eq off, 3)) (ht : (pc : Int) + off = (tgt : Int)) (k0 : x = 0 → G E B code fk tgt lv st M) (k1 : ¬ x = 0 → G E B code fk (pc + 3) lv st M) : G E B code fk pc lv (.int x :: st) M := by
  intro p l e s m args below meth c H locs ls hB hR hS hL
  exact lv_if_eq hB.1 hB.2.1 hd ht (fun q => k0 q p l e s m args below meth c H locs ls hB hR hS hL) (fun q => k1 q p l e s m args below meth c H locs ls hB hR hS hL)
theorem g_if_ne {x : Int32} {off : Int} {tgt : Nat} (hd : decode code pc = .ok (.ifCond .ne off, 3)) (ht : (pc : Int) + off = (tgt : Int)) (k0 : ¬ x = 0 → G E B code fk tgt lv st M) (k1 : x = 0 → G E B code fk (pc + 3) lv st M) : G E B code fk pc lv (.int x :: st) M := by
  intro p l e s m args below meth c H locs ls hB hR hS hL
  exact lv_if_ne hB.1 hB.2.1 hd ht (fun q => k0 q p l e s m args below meth c H locs ls hB hR hS hL) (fun q => k1 q p l e s m args below meth c H locs ls hB hR hS hL)
theorem g_tableOut {dflt lo hi : Int} {offs : Array Int} {len : Nat} {x : Int32} {tgt : Nat} (hd : decode code pc = .ok (.tableswitch dflt lo hi offs, len)) (h : x.toInt < lo ∨ hi < x.toInt) (ht : (pc : Int) + dflt = (tgt : Int)) (k : G E B code fk tgt lv st M) : G E B code fk pc lv (.int x :: st) M := by
  intro p l e s m args below meth c H locs ls hB hR hS hL
  exact lv_tableOut hB.1 hB.2.1 hd h ht (k p l e s m args below meth c H locs ls hB hR hS hL)
theorem g_tableIn {dflt lo hi : Int} {offs : Array Int} {len : Nat} {x : Int32} {off : Int} {tgt : Nat} (hd : decode code pc = .ok (.tableswitch dflt lo hi offs, len)) (h1 : ¬ x.toInt < lo) (h2 : ¬ hi < x.toInt) (ho : offs[(x.toInt - lo).toNat]? = some off) (ht : (pc : Int) + off = (tgt : Int)) (k : G E B code fk tgt lv st M) : G E B code fk pc lv (.int x :: st) M := by
  intro p l e s m args below meth c H locs ls hB hR hS hL
  exact lv_tableIn hB.1 hB.2.1 hd h1 h2 ho ht (k p l e s m args below meth c H locs ls hB hR hS hL)
theorem g_lookup {dflt : Int} {ps : Array (Int × Int)} {len : Nat} {x : Int32} {off : Int} {tgt : Nat} (hd : decode code pc = .ok (.lookupswitch dflt ps, len)) (hp : (ps.toList.zip (ps.toList.drop 1)).all (fun (a, next) => a.1 < next.1) = true) (ho : Op.lookupswitch.offset ps.toList dflt x.toInt = off) (ht : (pc : Int) + off = (tgt : Int)) (k : G E B code fk tgt lv st M) : G E B code fk pc lv (.int x :: st) M := by
  intro p l e s m args below meth c H locs ls hB hR hS hL
  exact lv_lookup hB.1 hB.2.1 hd hp ho ht (k p l e s m args below meth c H locs ls hB hR hS hL)
theorem g_ldc {index : Nat} {v : Int32} (hd : decode code pc = .ok (.ldc index, 2)) (hw : Cond.constant fk.1 index v ∈ tbG) (k : G E B code fk (pc + 2) lv (.int v :: st) M) : G E B code fk pc lv st M := by
  intro p l e s m args below meth c H locs ls hB hR hS hL
  exact lv_ldc hB.1 hB.2.1 hB.2.2.2.2.2.1 (hB.2.2.2.2.2.2.1.1 _ hw _) hd (k p l e s m args below meth c H locs ls hB hR hS hL)
theorem g_ldc2 {index : Nat} {v : Int64} (hd : decode code pc = .ok (.ldc2_w index, 3)) (hw : Cond.constantLong fk.1 index v ∈ tbG) (k : G E B code fk (pc + 3) lv (.long v :: st) M) : G E B code fk pc lv st M := by
  intro p l e s m args below meth c H locs ls hB hR hS hL
  exact lv_ldc2 hB.1 hB.2.1 hB.2.2.2.2.2.1 (hB.2.2.2.2.2.2.1.1 _ hw _) hd (k p l e s m args below meth c H locs ls hB hR hS hL)
theorem g_ldcS {i : Nat} (hd : decode code pc = .ok (.ldc (sIx i), 2)) (hi : i < 7) (ho : fk.1 = RX3) (k : G E B code fk (pc + 2) lv (.ref (E.2.2.2.2.1 i) :: st) M) : G E B code fk pc lv st M := by
  intro p l e s m args below meth c H locs ls hB hR hS hL
  exact va_ldcS hB.1 hB.2.1 (own := RX3) (by rw [← ho]; exact hB.2.2.2.2.2.1) (hB.2.2.2.2.2.2.1.2.2.2.2.1 i hi) hd (k p l e s m args below meth c H locs ls hB hR hS hL)
theorem in_ws {ws : List Cond} (ps : List Nat) (h : ws = ps.filterMap (fun i => lw_tbl[i]?)) (hg : ws.all (fun w => w.onTables && w.keeps) = true) : ∀ w ∈ ws, w ∈ tbG := by
  intro w hw
  refine List.mem_filter.mpr ⟨?_, List.all_eq_true.mp hg w hw⟩
  rw [h] at hw
  obtain ⟨i, -, hi⟩ := List.mem_filterMap.mp hw
  exact List.mem_of_getElem? hi
theorem inw0 : ∀ w ∈ u_ws RX0 TX0 5, w ∈ tbG := in_ws [260, 262, 264, 266, 268] (by decide +kernel) (by decide +kernel)
theorem inw1 : ∀ w ∈ u_ws RX1 TX1 4, w ∈ tbG := in_ws [123, 125, 127, 129] (by decide +kernel) (by decide +kernel)
theorem inw2 : ∀ w ∈ u_ws RX2 TX2 7, w ∈ tbG := in_ws [200, 202, 204, 206, 208, 210, 212] (by decide +kernel) (by decide +kernel)
theorem inw3 : ∀ w ∈ u_ws RX3 TX3 7, w ∈ tbG := in_ws [229, 231, 233, 235, 237, 239, 241] (by decide +kernel) (by decide +kernel)
theorem inw4 : ∀ w ∈ u_ws RX4 TX4 4, w ∈ tbG := in_ws [287, 289, 291, 293] (by decide +kernel) (by decide +kernel)
theorem inw5 : ∀ w ∈ u_ws RX5 TX5 10, w ∈ tbG := in_ws [158, 160, 162, 164, 166, 168, 170, 172, 174, 176] (by decide +kernel) (by decide +kernel)
theorem inw6 : ∀ w ∈ u_ws RX6 TX6 15, w ∈ tbG := in_ws [312, 314, 316, 318, 320, 322, 324, 326, 328, 330, 332, 334, 336, 338, 340] (by decide +kernel) (by decide +kernel)
theorem inw7 : ∀ w ∈ u_ws RX7 TX7 43, w ∈ tbG := in_ws [956, 958, 960, 962, 964, 966, 968, 970, 972, 974, 976, 978, 980, 982, 984, 986, 988, 990, 992, 994, 996, 998, 1000, 1002, 1004, 1006, 1008, 1010, 1012, 1014, 1016, 1018, 1020, 1022, 1024, 1026, 1028, 1030, 1032, 1034, 1036, 1038, 1040] (by decide +kernel) (by decide +kernel)
/-- what the tables say of the classes -/
theorem cl_all : ∀ (ci : Nat) (q : vw_C), vwCl[ci]? = some q → (∀ w ∈ u_ws q.1 q.2.1 q.2.2, w ∈ tbG) ∧ (∀ a, a < q.2.2 → ∀ b, b < q.2.2 → a ≠ b → (q.2.1 a).2.1 ≠ (q.2.1 b).2.1) ∧ ∃ ty0 : Nat → FieldType, ∀ k, k < q.2.2 → parseFieldDescriptor (q.2.1 k).2.2.1 = some (ty0 k) := by
  intro ci q h
  match ci, h with
  | 0, h => cases h; exact ⟨inw0, nmX0, _, tyX0_ok⟩
  | 1, h => cases h; exact ⟨inw1, nmX1, _, tyX1_ok⟩
  | 2, h => cases h; exact ⟨inw2, nmX2, _, tyX2_ok⟩
  | 3, h => cases h; exact ⟨inw3, nmX3, _, tyX3_ok⟩
  | 4, h => cases h; exact ⟨inw4, nmX4, _, tyX4_ok⟩
  | 5, h => cases h; exact ⟨inw5, nmX5, _, tyX5_ok⟩
  | 6, h => cases h; exact ⟨inw6, nmX6, _, tyX6_ok⟩
  | 7, h => cases h; exact ⟨inw7, nmX7, _, tyX7_ok⟩
  | k + 8, h => simp [vwCl] at h
/-- a field's link: which field of which class -/
def FL (own : String) (idx ci j : Nat) : Prop := ∃ (C : String) (T : u_T) (N : Nat), vwCl[ci]? = some (C, T, N) ∧ j < N ∧ Cond.fieldLink own idx (T j).1 (T j).2.1 (T j).2.2.1 ∈ tbG
def FP (own : String) (idx ci j : Nat) (ty : FieldType) : Prop := ∃ (C : String) (T : u_T) (N : Nat), vwCl[ci]? = some (C, T, N) ∧ j < N ∧ Cond.fieldLink own idx (T j).1 (T j).2.1 (T j).2.2.1 ∈ tbG ∧ (T j).2.2.2 = false ∧ parseFieldDescriptor (T j).2.2.1 = some ty
theorem plan_n : ∀ le ∈ plan, ∀ n b, le = .inr (.inl (n, b)) → n < 2 ^ 31 := by
  have h : plan.all (fun le => match le with | .inr (.inl q) => decide (q.1 < 2 ^ 31) | _ => true) = true := by decide +kernel
  intro le hle n b e
  have h1 := List.all_eq_true.mp h le hle
  rw [e] at h1
  simpa using h1
theorem plan_r : ∀ le ∈ plan, ∀ t rs, le = .inr (.inr (t, rs)) → rs.length < 2 ^ 31 ∧ (t = 2 ∨ t = 3) := by
  have h : plan.all (fun le => match le with | .inr (.inr q) => decide (q.2.length < 2 ^ 31 ∧ (q.1 = 2 ∨ q.1 = 3)) | _ => true) = true := by decide +kernel
  intro le hle t rs e
  have h1 := List.all_eq_true.mp h le hle
  rw [e] at h1
  simpa using h1
theorem g_getI {k idx ci j : Nat} {fs : List (Option Nat)} {x : Int32} (hd : decode code pc = .ok (.getfield idx, 3)) (hf : FL fk.1 idx ci j) (hk : plan[k]? = some (.inl (ci, fs))) (hj : fs[j]? = some none) (hv : M.1 (B + k) j = x) (kk : G E B code fk (pc + 3) lv (.int x :: st) M) : G E B code fk pc lv (.ref (B + k) :: st) M := by
  intro p l e s m args below meth c H locs ls hB hR hS hL
  obtain ⟨C, T, N, hc, hjN, hl⟩ := hf
  have hE := hB.2.2.2.2.2.2.1
  exact va_get (Ts := tbG) (v := .int x) hB.1 hB.2.1 (fun w hw => hE.1 w hw args) (cl_all ci _ hc).1 hB.2.2.2.2.2.1 hE.2.2.1 hR k (wld_at hk) hc j hjN (hE.1 _ hl args) (fun _ h => h) (by rw [List.getElem?_mapIdx, hj, ← hv]; rfl) hd (kk p l e s m args below meth c H locs ls hB hR hS hL)
theorem g_getR {k idx ci j rr : Nat} {fs : List (Option Nat)} (hd : decode code pc = .ok (.getfield idx, 3)) (hf : FL fk.1 idx ci j) (hk : plan[k]? = some (.inl (ci, fs))) (hj : fs[j]? = some (some rr)) (kk : G E B code fk (pc + 3) lv (.ref (B + rr) :: st) M) : G E B code fk pc lv (.ref (B + k) :: st) M := by
  intro p l e s m args below meth c H locs ls hB hR hS hL
  obtain ⟨C, T, N, hc, hjN, hl⟩ := hf
  have hE := hB.2.2.2.2.2.2.1
  exact va_get (Ts := tbG) (v := .ref (B + rr)) hB.1 hB.2.1 (fun w hw => hE.1 w hw args) (cl_all ci _ hc).1 hB.2.2.2.2.2.1 hE.2.2.1 hR k (wld_at hk) hc j hjN (hE.1 _ hl args) (fun _ h => h) (by rw [List.getElem?_mapIdx, hj]; rfl) hd (kk p l e s m args below meth c H locs ls hB hR hS hL)
theorem fld_set {k j : Nat} {fs : List (Option Nat)} {x : Int32} (hj : fs[j]? = some none) : fs.mapIdx (fldV B (upI M (B + k) j x) k) = (fs.mapIdx (fldV B M k)).set j (.int x) := by
  apply List.ext_getElem?
  intro i
  have hjl : j < fs.length := (List.getElem?_eq_some_iff.mp hj).1
  by_cases hi : i = j
  · subst hi
    rw [List.getElem?_set_self (by simpa using hjl), List.getElem?_mapIdx, hj]
    simp [fldV, upI_s]
  · rw [List.getElem?_set_ne (Ne.symm hi), List.getElem?_mapIdx, List.getElem?_mapIdx]
    cases fs[i]? with
    | none => rfl
    | some o => cases o <;> simp [fldV, upI_k hi]
theorem upI_off {M : MM} {k j : Nat} {x : Int32} : ∀ q, q ≠ k → (upI M (B + k) j x).1 (B + q) = M.1 (B + q) ∧ (upI M (B + k) j x).2 (B + q) = M.2 (B + q) := fun q hq => ⟨upI_n (by omega), rfl⟩
theorem g_putT {k idx ci j : Nat} {fs : List (Option Nat)} {x : Int32} {ty : FieldType} (hd : decode code pc = .ok (.putfield idx, 3)) (hf : FP fk.1 idx ci j ty) (hk : plan[k]? = some (.inl (ci, fs))) (hj : fs[j]? = some none) (hn : narrow ty (.int x) = .int x) (hft : fits ty (.int x) = true) (kk : G E B code fk (pc + 3) lv st (upI M (B + k) j x)) : G E B code fk pc lv (.int x :: .ref (B + k) :: st) M := by
  intro p l e s m args below meth c H locs ls hB hR hS hL
  obtain ⟨C, T, N, hc, hjN, hl, hfin, hty⟩ := hf
  have hE := hB.2.2.2.2.2.2.1
  obtain ⟨cl1, cl2, ty0, cl3⟩ := cl_all ci _ hc
  have hjl : j < fs.length := (List.getElem?_eq_some_iff.mp hj).1
  refine va_put (Ts := tbG) (v := .int x) (ty := ty) hB.1 hB.2.1 (fun w hw => hE.1 w hw args) cl1 ty0 cl3 cl2 hB.2.2.2.2.2.1 hE.2.2.1 hR wld_D hS k (wld_at hk) hc j hjN (hE.1 _ hl args) (fun _ h => h) hfin hty hn hft (by simpa using hjl) hd (fun H1 locs1 hP hD hS1 => ?_)
  rw [wld_set (M' := upI M (B + k) j x) hk (by simp only [entV]; rw [fld_set hj]) upI_off] at hP
  exact kk p l e s m args below meth c H1 locs1 ls hB hP hS1 hL
theorem g_putI {k idx ci j : Nat} {fs : List (Option Nat)} {x : Int32} (hd : decode code pc = .ok (.putfield idx, 3)) (hf : FP fk.1 idx ci j .int) (hk : plan[k]? = some (.inl (ci, fs))) (hj : fs[j]? = some none) (kk : G E B code fk (pc + 3) lv st (upI M (B + k) j x)) : G E B code fk pc lv (.int x :: .ref (B + k) :: st) M := g_putT hd hf hk hj rfl rfl kk
theorem nar_z {x : Int32} (h : x = 0 ∨ x = 1) : narrow .boolean (.int x) = .int x := by rcases h with rfl | rfl <;> rfl
theorem fit_z {x : Int32} (h : x = 0 ∨ x = 1) : fits .boolean (.int x) = true := by rcases h with rfl | rfl <;> rfl
theorem g_putZ {k idx ci j : Nat} {fs : List (Option Nat)} {x : Int32} (hd : decode code pc = .ok (.putfield idx, 3)) (hf : FP fk.1 idx ci j .boolean) (hk : plan[k]? = some (.inl (ci, fs))) (hj : fs[j]? = some none) (hx : x = 0 ∨ x = 1) (kk : G E B code fk (pc + 3) lv st (upI M (B + k) j x)) : G E B code fk pc lv (.int x :: .ref (B + k) :: st) M := g_putT hd hf hk hj (nar_z hx) (fit_z hx) kk
theorem g_iald {k n q : Nat} {i x : Int32} (hd : decode code pc = .ok (.iaload, 1)) (hk : plan[k]? = some (.inr (.inl (n, false)))) (hi : i = nI q) (hq : q < n) (hv : M.1 (B + k) q = x) (kk : G E B code fk (pc + 1) lv (.int x :: st) M) : G E B code fk pc lv (.int i :: .ref (B + k) :: st) M := by
  intro p l e s m args below meth c H locs ls hB hR hS hL
  have hE := hB.2.2.2.2.2.2.1
  have hn := plan_n _ (List.mem_of_getElem? hk) n false rfl
  subst hi
  refine va_iald hB.1 hB.2.1 hE.2.2.1 hR k 0 (wld_at hk) rfl (vp_in_nI hq hn) hd ?_
  rw [nI_clamp (by omega), hv]
  exact kk p l e s m args below meth c H locs ls hB hR hS hL
theorem g_lald {k n q : Nat} {i : Int32} {x : Int64} (hd : decode code pc = .ok (.laload, 1)) (hk : plan[k]? = some (.inr (.inl (n, true)))) (hi : i = nI q) (hq : q < n) (hv : M.2 (B + k) q = x) (kk : G E B code fk (pc + 1) lv (.long x :: st) M) : G E B code fk pc lv (.int i :: .ref (B + k) :: st) M := by
  intro p l e s m args below meth c H locs ls hB hR hS hL
  have hE := hB.2.2.2.2.2.2.1
  have hn := plan_n _ (List.mem_of_getElem? hk) n true rfl
  subst hi
  refine va_lald hB.1 hB.2.1 hE.2.2.1 hR k 1 (wld_at hk) rfl (vp_in_nI hq hn) hd ?_
  rw [nI_clamp (by omega), hv]
  exact kk p l e s m args below meth c H locs ls hB hR hS hL
theorem g_aald {k t q rr : Nat} {i : Int32} {rs : List Nat} (hd : decode code pc = .ok (.aaload, 1)) (hk : plan[k]? = some (.inr (.inr (t, rs)))) (hi : i = nI q) (hv : rs[q]? = some rr) (kk : G E B code fk (pc + 1) lv (.ref (B + rr) :: st) M) : G E B code fk pc lv (.int i :: .ref (B + k) :: st) M := by
  intro p l e s m args below meth c H locs ls hB hR hS hL
  have hE := hB.2.2.2.2.2.2.1
  obtain ⟨hn, ht⟩ := plan_r _ (List.mem_of_getElem? hk) t rs rfl
  have hq : q < rs.length := (List.getElem?_eq_some_iff.mp hv).1
  subst hi
  have h9 : va_rf (rs[(nI q).toNatClampNeg]?.map (fun r => B + r)) = .ref (B + rr) := by rw [nI_clamp (by omega), hv]; rfl
  rcases ht with rfl | rfl
  · refine va_aldq (C := "DunkedBiscuits$Shelf") hB.1 hB.2.1 hE.2.2.1 hR k 2 (wld_at hk) rfl (vp_in_nI hq hn) hd ?_
    rw [h9]
    exact kk p l e s m args below meth c H locs ls hB hR hS hL
  · refine va_aldq (C := "DunkedBiscuits$Biscuit") hB.1 hB.2.1 hE.2.2.1 hR k 3 (wld_at hk) rfl (vp_in_nI hq hn) hd ?_
    rw [h9]
    exact kk p l e s m args below meth c H locs ls hB hR hS hL
theorem upR_off {M : MM} {k : Nat} {f : Nat → Int32} : ∀ q, q ≠ k → (upR M (B + k) f).1 (B + q) = M.1 (B + q) ∧ (upR M (B + k) f).2 (B + q) = M.2 (B + q) := fun q hq => ⟨upR_n (by omega), rfl⟩
theorem upRL_off {M : MM} {k : Nat} {f : Nat → Int64} : ∀ q, q ≠ k → (upRL M (B + k) f).1 (B + q) = M.1 (B + q) ∧ (upRL M (B + k) f).2 (B + q) = M.2 (B + q) := fun q hq => ⟨rfl, upRL_n (by omega)⟩
theorem g_iast {k n q : Nat} {i x : Int32} (hd : decode code pc = .ok (.iastore, 1)) (hk : plan[k]? = some (.inr (.inl (n, false)))) (hi : i = nI q) (hq : q < n) (kk : G E B code fk (pc + 1) lv st (upI M (B + k) q x)) : G E B code fk pc lv (.int x :: .int i :: .ref (B + k) :: st) M := by
  intro p l e s m args below meth c H locs ls hB hR hS hL
  have hE := hB.2.2.2.2.2.2.1
  have hn := plan_n _ (List.mem_of_getElem? hk) n false rfl
  subst hi
  refine va_iast hB.1 hB.2.1 hE.2.2.1 hR wld_D hS k 0 (wld_at hk) rfl (vp_in_nI hq hn) hd (fun H1 locs1 hP hD hS1 => ?_)
  rw [nI_clamp (by omega)] at hP
  rw [wld_set (M' := upI M (B + k) q x) hk (by simp only [entV]; rw [upI, upR_s]) upI_off] at hP
  exact kk p l e s m args below meth c H1 locs1 ls hB hP hS1 hL
theorem upL_off {M : MM} {k j : Nat} {x : Int64} : ∀ q, q ≠ k → (upL M (B + k) j x).1 (B + q) = M.1 (B + q) ∧ (upL M (B + k) j x).2 (B + q) = M.2 (B + q) := fun q hq => ⟨rfl, upL_n (by omega)⟩
theorem g_last {k n q : Nat} {i : Int32} {x : Int64} (hd : decode code pc = .ok (.lastore, 1)) (hk : plan[k]? = some (.inr (.inl (n, true)))) (hi : i = nI q) (hq : q < n) (kk : G E B code fk (pc + 1) lv st (upL M (B + k) q x)) : G E B code fk pc lv (.long x :: .int i :: .ref (B + k) :: st) M := by
  intro p l e s m args below meth c H locs ls hB hR hS hL
  have hE := hB.2.2.2.2.2.2.1
  have hn := plan_n _ (List.mem_of_getElem? hk) n true rfl
  subst hi
  refine va_last hB.1 hB.2.1 hE.2.2.1 hR wld_D hS k 1 (wld_at hk) rfl (vp_in_nI hq hn) hd (fun H1 locs1 hP hD hS1 => ?_)
  rw [nI_clamp (by omega)] at hP
  rw [wld_set (M' := upL M (B + k) q x) hk (by simp only [entV]; rw [upL, upRL_s]) upL_off] at hP
  exact kk p l e s m args below meth c H1 locs1 ls hB hP hS1 hL
theorem g_alen {k n : Nat} {b : Bool} {v : Int32} (hd : decode code pc = .ok (.arraylength, 1)) (hk : plan[k]? = some (.inr (.inl (n, b)))) (hv : nI n = v) (kk : G E B code fk (pc + 1) lv (.int v :: st) M) : G E B code fk pc lv (.ref (B + k) :: st) M := by
  intro p l e s m args below meth c H locs ls hB hR hS hL
  have hE := hB.2.2.2.2.2.2.1
  cases b with
  | false => exact va_alen hB.1 hB.2.1 hE.2.2.1 hR k 0 (wld_at hk) rfl hv hd (kk p l e s m args below meth c H locs ls hB hR hS hL)
  | true => exact va_alen hB.1 hB.2.1 hE.2.2.1 hR k 1 (wld_at hk) rfl hv hd (kk p l e s m args below meth c H locs ls hB hR hS hL)
/-! the two tables -/
theorem g_getAb {idx : Nat} (hd : decode code pc = .ok (.getstatic idx, 3)) (hw : Cond.fieldLinkNest fk.1 idx "DunkedBiscuits" "ABOVE" "[I" "DunkedBiscuits" ∈ tbN) (kk : G E B code fk (pc + 3) lv (.ref E.2.2.1 :: st) M) : G E B code fk pc lv st M := by
  intro p l e s m args below meth c H locs ls hB hR hS hL
  have hE := hB.2.2.2.2.2.2.1
  exact va_getsN hB.1 hB.2.1 hE.2.2.2.1.1 hS hB.2.2.2.2.2.1 (va_Nw.use (tbN_tab _ hw) (hE.2.1 _ hw)) (fun _ h => h) hd (kk p l e s m args below meth c H locs ls hB hR hS hL)
theorem g_getBo {idx : Nat} (hd : decode code pc = .ok (.getstatic idx, 3)) (hw : Cond.fieldLink fk.1 idx "DunkedBiscuits$Act" "BODIES" "[I" ∈ tbG) (kk : G E B code fk (pc + 3) lv (.ref E.2.2.2.1 :: st) M) : G E B code fk pc lv st M := by
  intro p l e s m args below meth c H locs ls hB hR hS hL
  have hE := hB.2.2.2.2.2.2.1
  exact va_gets hB.1 hB.2.1 hE.2.2.2.1.2.2.1 hS hB.2.2.2.2.2.1 (hE.1 _ hw args) (fun _ h => h) hd (kk p l e s m args below meth c H locs ls hB hR hS hL)
theorem g_ialdAb {q : Nat} {i x : Int32} (hd : decode code pc = .ok (.iaload, 1)) (hi : i = nI q) (hq : q < 7) (hv : fAb q = x) (kk : G E B code fk (pc + 1) lv (.int x :: st) M) : G E B code fk pc lv (.int i :: .ref E.2.2.1 :: st) M := by
  intro p l e s m args below meth c H locs ls hB hR hS hL
  have hE := hB.2.2.2.2.2.2.1
  subst hi
  exact va_ti hB.1 hB.2.1 hE.2.2.2.1.2.1 hS (vp_in_nI hq (by omega)) (by rw [nI_clamp (by omega), hv]) hd (kk p l e s m args below meth c H locs ls hB hR hS hL)
theorem g_ialdBo {q : Nat} {i x : Int32} (hd : decode code pc = .ok (.iaload, 1)) (hi : i = nI q) (hq : q < 21) (hv : fBo q = x) (kk : G E B code fk (pc + 1) lv (.int x :: st) M) : G E B code fk pc lv (.int i :: .ref E.2.2.2.1 :: st) M := by
  intro p l e s m args below meth c H locs ls hB hR hS hL
  have hE := hB.2.2.2.2.2.2.1
  subst hi
  exact va_ti hB.1 hB.2.1 hE.2.2.2.1.2.2.2 hS (vp_in_nI hq (by omega)) (by rw [nI_clamp (by omega), hv]) hd (kk p l e s m args below meth c H locs ls hB hR hS hL)
/-! calls -/
/-- an instance method's words, its number of parameters -/
def MI (y : MethodName) (code : ByteArray) (nL : Nat) (ret : Option FieldType) (n : Nat) : Prop := Cond.code y code nL ret ∈ tbG ∧ Cond.instanceMethod y ∈ tbG ∧ Cond.selects y.cls y y ∈ tbG ∧ Cond.initialized y.cls ∈ tbG ∧ (y.cls ≠ "java/lang/invoke/MethodHandle" ∧ y.cls ≠ "java/lang/invoke/VarHandle") ∧ (parseMethodDescriptor y.desc).map (fun d => d.parameters.length) = some n
def MS (y : MethodName) (code : ByteArray) (nL : Nat) (ret : Option FieldType) (n : Nat) : Prop := Cond.code y code nL ret ∈ tbG ∧ Cond.static y ∈ tbG ∧ Cond.initialized y.cls ∈ tbG ∧ (y.cls ≠ "java/lang/invoke/MethodHandle" ∧ y.cls ≠ "java/lang/invoke/VarHandle") ∧ (parseMethodDescriptor y.desc).map (fun d => d.parameters.length) = some n
theorem PcO_blind {As : List Value} : FrameBlind (PcO E B As M) := fun a U g mk h => ⟨h.1, EV.same (u := U) (U := U.calling g mk a) rfl rfl h.2.1, h.2.2⟩
theorem ws_warm {s : State} {y : MethodName} {code2 : ByteArray} {nL : Nat} {ret : Option FieldType} (hE : EV E B s) (hc : Cond.code y code2 nL ret ∈ tbG) : ∀ w ∈ (Cond.code y code2 nL ret :: tbG), ∀ (a' : Array Value) (U : State), s.WarmedH U.vm → w.before a' U = true := by
  intro w hw a' U hW
  rcases List.mem_cons.mp hw with rfl | hw
  · exact word_at hW (Or.inl (by simp [tg_ok hc])) (hE.1 _ hc a')
  · exact word_at hW (Or.inl (by simp [tg_ok hw])) (hE.1 _ hw a')
theorem va_back {p : Program} {l : Launch} {e : Env} {R : Room} {s : State} {m : MethodId} {args : Array Value} {below : List Frame} {meth : Method} {c : Code} {H : Heap} {locs : List Loc} {cells slots : Nat} {Q : State → Prop} {ls : Array Slot} {st0 rest : List Value} {a : Array Value} {F : Option Value → MM → Prop}
    (hr : va_Run p l e R s m args below meth c H locs cells slots 0 0 (F0 m pc ls st0) rest (QcO E B F a) (AA B)) (hS : va_S (AA B) s.heap H locs)
    (kk : ∀ (r : Option Value) (M' : MM), F r M' → ∀ (H1 : Heap) (locs1 : List Loc), Rep E B M' H1 → va_S (AA B) s.heap H1 locs1 → W p l e R s m args below meth c H1 locs1 cells slots Q (F0 m (pc + 3) ls (r.toList ++ rest))) : W p l e R s m args below meth c H locs cells slots Q (F0 m pc ls st0) := by
  intro T hT X
  obtain ⟨v, st₀, t, T', L, h0, X', hL, e1, e2, ⟨⟨r, M', hv, hF, hR'⟩, hz, hk⟩, stp⟩ := hr T hT X
  cases hv
  rw [h0] at hz hk
  obtain ⟨t2, a1, b1⟩ := kk v M' hF T'.heap (locs ++ L) (by rw [e1]; exact hR')
    ⟨Nat.le_trans hS.1 (by rw [e1]; exact hz), fun q h1 h2 => by rw [e1, hk q (Nat.lt_of_lt_of_le h1 hS.1) h2]; exact hS.2.1 q h1 h2, fun q hq => by
      rcases List.mem_append.mp hq with h | h
      · exact hS.2.2 q h
      · exact hL q h⟩ T' rfl X'
  exact ⟨t2, stp t2 a1, b1⟩
theorem g_callV {idx k ci d nL n : Nat} {y : MethodName} {code2 : ByteArray} {ret2 : Option FieldType} {As st0 : List Value} {fs : List (Option Nat)} {F : Option Value → MM → Prop}
    (hd : decode code pc = .ok (.invokevirtual idx, 3)) (hm : MI y code2 nL ret2 n) (hl : Cond.methodLink fk.1 idx y ∈ tbG) (hC : Ct E B y code2 nL ret2 d (.ref (B + k) :: As) M F) (hk : plan[k]? = some (.inl (ci, fs))) (hc : (vwCl[ci]?).map (fun q => q.1) = some y.cls) (hn : As.length = n) (hst : st0 = As.reverse ++ .ref (B + k) :: st) (hw : (st.map fun v => v.category).sum ≤ 8)
    (hr : d + 1 ≤ fk.2.2.2.1.frames ∧ 8 + (nL + 11) + 40 * d ≤ fk.2.2.2.1.locals) (kk : ∀ (r : Option Value) (M' : MM), F r M' → G E B code fk (pc + 3) lv (r.toList ++ st) M') : G E B code fk pc lv st0 M := by
  intro p l e s m args below meth c H locs ls hB hR hS hL
  have hE := hB.2.2.2.2.2.2.1
  obtain ⟨m1, m2, m3, m4, m5, m6⟩ := hm
  subst hst
  cases hcc : vwCl[ci]? with
  | none => rw [hcc] at hc; cases hc
  | some q =>
    rw [hcc] at hc
    have hq1 : q.1 = y.cls := Option.some.inj hc
    have hrv := va_recv (q0 := k) hE.2.2.1 hR hcc (wld_at hk)
    rw [hq1] at hrv
    refine va_back (va_runV (own := fk.1) (cc := code) (nL := fk.2.1) (Ts := tbG) (b := B + k) (As := As) (rest := st) (n := n) ⟨hB.1, hB.2.1, hB.2.2.1, hB.2.2.2.2.2.1, fun w hw => hE.1 w hw args⟩ (hC l) ⟨⟨rfl, rfl, hr.1, hr.2, ws_warm hE m1, List.mem_cons_self, hE.1 _ m1 args, hE.1 _ m4 args, m5, fun sig h => ?_, hE.1 _ hl args⟩, hE.1 _ m2 args, hE.1 _ m3 args⟩ ⟨PcO_blind, hrv, fun U hU hW => ⟨rfl, EV.warm hW hU hS hE, by rw [hU]; exact hR⟩⟩ rfl hn hL.1 rfl (by simpa using hw) hd hB.2.2.2.2.2.2.2) hS (fun r M' hF H1 locs1 hR1 hS1 => kk r M' hF p l e s m args below meth c H1 locs1 ls hB hR1 hS1 hL)
    rw [h] at m6
    exact (Option.some.inj m6).symm
theorem g_callS {idx d nL n : Nat} {y : MethodName} {code2 : ByteArray} {ret2 : Option FieldType} {As st0 : List Value} {F : Option Value → MM → Prop}
    (hd : decode code pc = .ok (.invokestatic idx, 3)) (hm : MS y code2 nL ret2 n) (hl : Cond.methodLink fk.1 idx y ∈ tbG) (hC : Ct E B y code2 nL ret2 d As M F) (hn : As.length = n) (hst : st0 = As.reverse ++ st) (hw : (st.map fun v => v.category).sum ≤ 8)
    (hr : d + 1 ≤ fk.2.2.2.1.frames ∧ 8 + (nL + 11) + 40 * d ≤ fk.2.2.2.1.locals) (kk : ∀ (r : Option Value) (M' : MM), F r M' → G E B code fk (pc + 3) lv (r.toList ++ st) M') : G E B code fk pc lv st0 M := by
  intro p l e s m args below meth c H locs ls hB hR hS hL
  have hE := hB.2.2.2.2.2.2.1
  obtain ⟨m1, m2, m4, m5, m6⟩ := hm
  subst hst
  refine va_back (va_runS (own := fk.1) (cc := code) (nL := fk.2.1) (Ts := tbG) (As := As) (rest := st) (n := n) ⟨hB.1, hB.2.1, hB.2.2.1, hB.2.2.2.2.2.1, fun w hw => hE.1 w hw args⟩ (hC l) ⟨⟨rfl, rfl, hr.1, hr.2, ws_warm hE m1, List.mem_cons_self, hE.1 _ m1 args, hE.1 _ m4 args, m5, fun sig h => ?_, hE.1 _ hl args⟩, hE.1 _ m2 args⟩ ⟨PcO_blind, fun U hU hW => ⟨rfl, EV.warm hW hU hS hE, by rw [hU]; exact hR⟩⟩ rfl hn hL.1 rfl (by simpa using hw) hd hB.2.2.2.2.2.2.2) hS (fun r M' hF H1 locs1 hR1 hS1 => kk r M' hF p l e s m args below meth c H1 locs1 ls hB hR1 hS1 hL)
  rw [h] at m6
  exact (Option.some.inj m6).symm
theorem g_callSN {idx d nL n : Nat} {y : MethodName} {host : String} {code2 : ByteArray} {ret2 : Option FieldType} {As st0 : List Value} {F : Option Value → MM → Prop}
    (hd : decode code pc = .ok (.invokestatic idx, 3)) (hm : MS y code2 nL ret2 n) (hl : Cond.methodLinkNest fk.1 idx y host ∈ tbN) (hC : Ct E B y code2 nL ret2 d As M F) (hn : As.length = n) (hst : st0 = As.reverse ++ st) (hw : (st.map fun v => v.category).sum ≤ 8)
    (hr : d + 1 ≤ fk.2.2.2.1.frames ∧ 8 + (nL + 11) + 40 * d ≤ fk.2.2.2.1.locals) (kk : ∀ (r : Option Value) (M' : MM), F r M' → G E B code fk (pc + 3) lv (r.toList ++ st) M') : G E B code fk pc lv st0 M := by
  intro p l e s m args below meth c H locs ls hB hR hS hL
  have hE := hB.2.2.2.2.2.2.1
  obtain ⟨m1, m2, m4, m5, m6⟩ := hm
  subst hst
  refine va_back (va_runSN (own := fk.1) (cc := code) (nL := fk.2.1) (Ts := tbG) (As := As) (rest := st) (n := n) (host := host) ⟨hB.1, hB.2.1, hB.2.2.1, hB.2.2.2.2.2.1, fun w hw => hE.1 w hw args⟩ (hC l) ⟨⟨⟨rfl, rfl, hr.1, hr.2, ws_warm hE m1, List.mem_cons_self⟩, hE.1 _ m1 args, hE.1 _ m4 args, m5, fun sig h => ?_, va_Nw.use (tbN_tab _ hl) (hE.2.1 _ hl)⟩, hE.1 _ m2 args, trivial⟩ ⟨PcO_blind, fun U hU hW => ⟨rfl, EV.warm hW hU hS hE, by rw [hU]; exact hR⟩⟩ rfl hn hL.1 rfl (by simpa using hw) hd hB.2.2.2.2.2.2.2) hS (fun r M' hF H1 locs1 hR1 hS1 => kk r M' hF p l e s m args below meth c H1 locs1 ls hB hR1 hS1 hL)
  rw [h] at m6
  exact (Option.some.inj m6).symm
/-! ends -/
section RET
variable {own : String} {nL : Nat} {R : Room} {F : Option Value → MM → Prop}
theorem g_iret {v : Int32} (hd : decode code pc = .ok (.ireturn, 1)) (h : F (some (.int v)) M) : G E B code (own, nL, some .int, R, 0, 0, KM E B F) pc lv [.int v] M := by
  intro p l e s m args below meth c H locs ls hB hR hS hL
  have hlocks := hB.2.2.2.2.1
  exact W.iret hB.1 hB.2.1 hB.2.2.2.1 (fun t ht hW => ⟨⟨_, M, rfl, h, by rw [ht]; exact hR⟩, hS.F ht⟩) hS.2.2 hd
theorem g_zret {v : Int32} (hd : decode code pc = .ok (.ireturn, 1)) (hv : v = 0 ∨ v = 1) (h : F (some (.int v)) M) : G E B code (own, nL, some .boolean, R, 0, 0, KM E B F) pc lv [.int v] M := by
  intro p l e s m args below meth c H locs ls hB hR hS hL
  have hlocks := hB.2.2.2.2.1
  exact W.zret hB.1 hB.2.1 hB.2.2.2.1 (nar_z hv) (fun t ht hW => ⟨⟨_, M, rfl, h, by rw [ht]; exact hR⟩, hS.F ht⟩) hS.2.2 hd
theorem g_lret {v : Int64} (hd : decode code pc = .ok (.lreturn, 1)) (h : F (some (.long v)) M) : G E B code (own, nL, some .long, R, 0, 0, KM E B F) pc lv [.long v] M := by
  intro p l e s m args below meth c H locs ls hB hR hS hL
  have hlocks := hB.2.2.2.2.1
  exact W.lret hB.1 hB.2.1 hB.2.2.2.1 (fun t ht hW => ⟨⟨_, M, rfl, h, by rw [ht]; exact hR⟩, hS.F ht⟩) hS.2.2 hd
theorem g_vret (hd : decode code pc = .ok (.return_, 1)) (h : F none M) : G E B code (own, nL, none, R, 0, 0, KM E B F) pc lv [] M := by
  intro p l e s m args below meth c H locs ls hB hR hS hL
  have hlocks := hB.2.2.2.2.1
  exact W.vret hB.1 hB.2.1 hB.2.2.2.1 (fun t ht hW => ⟨⟨_, M, rfl, h, by rw [ht]; exact hR⟩, hS.F ht⟩) hS.2.2 hd
end RET
/-! Math, arraycopy -/
set_option maxRecDepth 20000 in
theorem mw_max : Cond.static Lib.Math.max.name ∈ tbG ∧ Cond.initialized "java/lang/Math" ∈ tbG ∧ Cond.code Lib.Math.max.name Lib.Math.max.code 2 (some .int) ∈ tbG := ⟨tg_in 588 rfl rfl, tg_in 85 rfl rfl, tg_in 589 (by decide +kernel) rfl⟩
set_option maxRecDepth 20000 in
theorem mw_min : Cond.static Lib.Math.min.name ∈ tbG ∧ Cond.initialized "java/lang/Math" ∈ tbG ∧ Cond.code Lib.Math.min.name Lib.Math.min.code 2 (some .int) ∈ tbG := ⟨tg_in 631 rfl rfl, tg_in 85 rfl rfl, tg_in 632 (by decide +kernel) rfl⟩
theorem g_mmax {idx : Nat} {x y v : Int32} (hd : decode code pc = .ok (.invokestatic idx, 3)) (hl : Cond.methodLink fk.1 idx Lib.Math.max.name ∈ tbG) (hv : (if x < y then y else x) = v) (hr : 1 ≤ fk.2.2.2.1.frames ∧ (st.map fun v => v.category).sum + 13 ≤ fk.2.2.2.1.locals) (kk : G E B code fk (pc + 3) lv (.int v :: st) M) : G E B code fk pc lv (.int y :: .int x :: st) M := by
  intro p l e s m args below meth c H locs ls hB hR hS hL
  have hE := hB.2.2.2.2.2.2.1
  refine va_mmax hB.1 hB.2.1 (hB.2.2.1.trans hL.1.symm) hB.2.2.2.2.2.1 (hE.1 _ hl args) (hE.1 _ mw_max.1 args) (hE.1 _ mw_max.2.1 args) (hE.1 _ mw_max.2.2 args) hr.1 hr.2 hB.2.2.2.2.2.2.2.1 hB.2.2.2.2.2.2.2.2 hd ?_
  rw [hv]
  exact kk p l e s m args below meth c H locs ls hB hR hS hL
theorem g_mmin {idx : Nat} {x y v : Int32} (hd : decode code pc = .ok (.invokestatic idx, 3)) (hl : Cond.methodLink fk.1 idx Lib.Math.min.name ∈ tbG) (hv : (if y < x then y else x) = v) (hr : 1 ≤ fk.2.2.2.1.frames ∧ (st.map fun v => v.category).sum + 13 ≤ fk.2.2.2.1.locals) (kk : G E B code fk (pc + 3) lv (.int v :: st) M) : G E B code fk pc lv (.int y :: .int x :: st) M := by
  intro p l e s m args below meth c H locs ls hB hR hS hL
  have hE := hB.2.2.2.2.2.2.1
  refine va_mmin hB.1 hB.2.1 (hB.2.2.1.trans hL.1.symm) hB.2.2.2.2.2.1 (hE.1 _ hl args) (hE.1 _ mw_min.1 args) (hE.1 _ mw_min.2.1 args) (hE.1 _ mw_min.2.2 args) hr.1 hr.2 hB.2.2.2.2.2.2.2.1 hB.2.2.2.2.2.2.2.2 hd ?_
  rw [hv]
  exact kk p l e s m args below meth c H locs ls hB hR hS hL
theorem mw_cpy : Cond.native arraycopyName ∈ tbG ∧ Cond.static arraycopyName ∈ tbG ∧ Cond.initialized "java/lang/System" ∈ tbG := ⟨tg_in 396 rfl rfl, tg_in 395 rfl rfl, tg_in 80 rfl rfl⟩
theorem g_cpyI {idx k0 k1 n0 n1 sp dp n : Nat} {sp' dp' n' : Int32} (hd : decode code pc = .ok (.invokestatic idx, 3)) (hl : Cond.methodLink fk.1 idx arraycopyName ∈ tbG) (h0 : plan[k0]? = some (.inr (.inl (n0, false)))) (h1 : plan[k1]? = some (.inr (.inl (n1, false)))) (e0 : sp' = nI sp) (e1 : dp' = nI dp) (e2 : n' = nI n) (b0 : sp + n ≤ n0) (b1 : dp + n ≤ n1)
    (hr : 1 ≤ fk.2.2.2.1.frames ∧ (st.map fun v => v.category).sum + (nativeFrameWords "java/lang/System" "arraycopy" 5 + 11) ≤ fk.2.2.2.1.locals) (kk : G E B code fk (pc + 3) lv st (upR M (B + k1) (va_cpy (M.1 (B + k0)) (M.1 (B + k1)) sp dp n))) : G E B code fk pc lv (.int n' :: .int dp' :: .ref (B + k1) :: .int sp' :: .ref (B + k0) :: st) M := by
  intro p l e s m args below meth c H locs ls hB hR hS hL
  have hE := hB.2.2.2.2.2.2.1
  have l0 := plan_n _ (List.mem_of_getElem? h0) n0 false rfl
  have l1 := plan_n _ (List.mem_of_getElem? h1) n1 false rfl
  have c0 : (nI sp).toNatClampNeg = sp := nI_clamp (by omega)
  have c1 : (nI dp).toNatClampNeg = dp := nI_clamp (by omega)
  have c2 : (nI n).toNatClampNeg = n := nI_clamp (by omega)
  subst e0; subst e1; subst e2
  refine va_copyi (ty := .int) hB.1 hB.2.1 (hB.2.2.1.trans hL.1.symm) hB.2.2.2.2.2.1 (hE.1 _ hl args) (hE.1 _ mw_cpy.1 args) (hE.1 _ mw_cpy.2.1 args) (hE.1 _ mw_cpy.2.2 args) hE.2.2.1 hR wld_D hS k0 k1 0 0 (wld_at h0) (wld_at h1) rfl rfl rfl (nI_pos (by omega)) (nI_pos (by omega)) (nI_pos (by omega)) (by rw [c0, c2]; exact b0) (by rw [c1, c2]; exact b1) (fun i _ => rfl) hr.1 hr.2 hd (fun H1 locs1 hP hD hS1 => ?_)
  rw [c0, c1, c2] at hP
  rw [wld_set (M' := upR M (B + k1) (va_cpy (M.1 (B + k0)) (M.1 (B + k1)) sp dp n)) h1 (by simp only [entV]; rw [upR_s]) upR_off] at hP
  exact kk p l e s m args below meth c H1 locs1 ls hB hP hS1 hL
theorem g_cpyL {idx k0 k1 n0 n1 sp dp n : Nat} {sp' dp' n' : Int32} (hd : decode code pc = .ok (.invokestatic idx, 3)) (hl : Cond.methodLink fk.1 idx arraycopyName ∈ tbG) (h0 : plan[k0]? = some (.inr (.inl (n0, true)))) (h1 : plan[k1]? = some (.inr (.inl (n1, true)))) (e0 : sp' = nI sp) (e1 : dp' = nI dp) (e2 : n' = nI n) (b0 : sp + n ≤ n0) (b1 : dp + n ≤ n1)
    (hr : 1 ≤ fk.2.2.2.1.frames ∧ (st.map fun v => v.category).sum + (nativeFrameWords "java/lang/System" "arraycopy" 5 + 11) ≤ fk.2.2.2.1.locals) (kk : G E B code fk (pc + 3) lv st (upRL M (B + k1) (va_cpy (M.2 (B + k0)) (M.2 (B + k1)) sp dp n))) : G E B code fk pc lv (.int n' :: .int dp' :: .ref (B + k1) :: .int sp' :: .ref (B + k0) :: st) M := by
  intro p l e s m args below meth c H locs ls hB hR hS hL
  have hE := hB.2.2.2.2.2.2.1
  have l0 := plan_n _ (List.mem_of_getElem? h0) n0 true rfl
  have l1 := plan_n _ (List.mem_of_getElem? h1) n1 true rfl
  have c0 : (nI sp).toNatClampNeg = sp := nI_clamp (by omega)
  have c1 : (nI dp).toNatClampNeg = dp := nI_clamp (by omega)
  have c2 : (nI n).toNatClampNeg = n := nI_clamp (by omega)
  subst e0; subst e1; subst e2
  refine va_copyl (ty := .long) hB.1 hB.2.1 (hB.2.2.1.trans hL.1.symm) hB.2.2.2.2.2.1 (hE.1 _ hl args) (hE.1 _ mw_cpy.1 args) (hE.1 _ mw_cpy.2.1 args) (hE.1 _ mw_cpy.2.2 args) hE.2.2.1 hR wld_D hS k0 k1 1 1 (wld_at h0) (wld_at h1) rfl rfl rfl (nI_pos (by omega)) (nI_pos (by omega)) (nI_pos (by omega)) (by rw [c0, c2]; exact b0) (by rw [c1, c2]; exact b1) (fun i _ => rfl) hr.1 hr.2 hd (fun H1 locs1 hP hD hS1 => ?_)
  rw [c0, c1, c2] at hP
  rw [wld_set (M' := upRL M (B + k1) (va_cpy (M.2 (B + k0)) (M.2 (B + k1)) sp dp n)) h1 (by simp only [entV]; rw [upRL_s]) upRL_off] at hP
  exact kk p l e s m args below meth c H1 locs1 ls hB hP hS1 hL
end GG
end
