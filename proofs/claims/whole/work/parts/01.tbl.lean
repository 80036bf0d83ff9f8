-- ===== PART A: goes FIRST, ahead of the names: the tables' words, and 'selects' of the private methods out of them =====
/-- a private method of a class that the tables say can be made, by its rows of tables_1 -/
def lw_okq (q : MethodName × Nat) : Prop := (q.1.cls ≠ "java/lang/invoke/MethodHandle" ∧ q.1.cls ≠ "java/lang/invoke/VarHandle") ∧ Cond.instantiable q.1.cls q.2 ∈ tables_1 ∧ Cond.privateMethod q.1 ∈ tables_1 ∧ Cond.instanceMethod q.1 ∈ tables_1
theorem lw_p0 : lw_okq (⟨"LettersEliminated", "refuse", "(I)I"⟩, 11) := ⟨⟨by decide +kernel, by decide +kernel⟩, List.mem_of_getElem? (i := 18) (by decide +kernel), List.mem_of_getElem? (i := 279) (by decide +kernel), List.mem_of_getElem? (i := 280) (by decide +kernel)⟩
theorem lw_p1 : lw_okq (⟨"LettersEliminated$Reader", "next", "()I"⟩, 7) := ⟨⟨by decide +kernel, by decide +kernel⟩, List.mem_of_getElem? (i := 72) (by decide +kernel), List.mem_of_getElem? (i := 306) (by decide +kernel), List.mem_of_getElem? (i := 307) (by decide +kernel)⟩
theorem lw_p2 : lw_okq (⟨"LettersEliminated$Reader", "readTerm", "()Z"⟩, 7) := ⟨⟨by decide +kernel, by decide +kernel⟩, List.mem_of_getElem? (i := 72) (by decide +kernel), List.mem_of_getElem? (i := 310) (by decide +kernel), List.mem_of_getElem? (i := 311) (by decide +kernel)⟩
theorem lw_p3 : lw_okq (⟨"LettersEliminated$Reader", "readNumber", "()V"⟩, 7) := ⟨⟨by decide +kernel, by decide +kernel⟩, List.mem_of_getElem? (i := 72) (by decide +kernel), List.mem_of_getElem? (i := 314) (by decide +kernel), List.mem_of_getElem? (i := 315) (by decide +kernel)⟩
theorem lw_p4 : lw_okq (⟨"LettersEliminated$Reader", "readPower", "(I)I"⟩, 7) := ⟨⟨by decide +kernel, by decide +kernel⟩, List.mem_of_getElem? (i := 72) (by decide +kernel), List.mem_of_getElem? (i := 318) (by decide +kernel), List.mem_of_getElem? (i := 319) (by decide +kernel)⟩
theorem lw_p5 : lw_okq (⟨"LettersEliminated$Poly", "refresh", "(I)V"⟩, 4) := ⟨⟨by decide +kernel, by decide +kernel⟩, List.mem_of_getElem? (i := 33) (by decide +kernel), List.mem_of_getElem? (i := 349) (by decide +kernel), List.mem_of_getElem? (i := 350) (by decide +kernel)⟩
theorem lw_p6 : lw_okq (⟨"LettersEliminated$Poly", "byKind", "(III)I"⟩, 4) := ⟨⟨by decide +kernel, by decide +kernel⟩, List.mem_of_getElem? (i := 33) (by decide +kernel), List.mem_of_getElem? (i := 353) (by decide +kernel), List.mem_of_getElem? (i := 354) (by decide +kernel)⟩
theorem lw_p7 : lw_okq (⟨"LettersEliminated$Poly", "even", "(II)I"⟩, 4) := ⟨⟨by decide +kernel, by decide +kernel⟩, List.mem_of_getElem? (i := 33) (by decide +kernel), List.mem_of_getElem? (i := 357) (by decide +kernel), List.mem_of_getElem? (i := 358) (by decide +kernel)⟩
theorem lw_p8 : lw_okq (⟨"LettersEliminated$Poly", "shift", "(I)V"⟩, 4) := ⟨⟨by decide +kernel, by decide +kernel⟩, List.mem_of_getElem? (i := 33) (by decide +kernel), List.mem_of_getElem? (i := 364) (by decide +kernel), List.mem_of_getElem? (i := 365) (by decide +kernel)⟩
theorem lw_p9 : lw_okq (⟨"LettersEliminated$Past", "forgetOldest", "()V"⟩, 4) := ⟨⟨by decide +kernel, by decide +kernel⟩, List.mem_of_getElem? (i := 102) (by decide +kernel), List.mem_of_getElem? (i := 398) (by decide +kernel), List.mem_of_getElem? (i := 399) (by decide +kernel)⟩
theorem lw_p10 : lw_okq (⟨"LettersEliminated", "powersRefusal", "(III)I"⟩, 11) := ⟨⟨by decide +kernel, by decide +kernel⟩, List.mem_of_getElem? (i := 18) (by decide +kernel), List.mem_of_getElem? (i := 411) (by decide +kernel), List.mem_of_getElem? (i := 412) (by decide +kernel)⟩
theorem lw_p11 : lw_okq (⟨"LettersEliminated", "tableRefusal", "(IIII)I"⟩, 11) := ⟨⟨by decide +kernel, by decide +kernel⟩, List.mem_of_getElem? (i := 18) (by decide +kernel), List.mem_of_getElem? (i := 484) (by decide +kernel), List.mem_of_getElem? (i := 485) (by decide +kernel)⟩
theorem lw_p12 : lw_okq (⟨"LettersEliminated$Table", "fillSylvester", "(LLettersEliminated$Poly;LLettersEliminated$Poly;III)V"⟩, 8) := ⟨⟨by decide +kernel, by decide +kernel⟩, List.mem_of_getElem? (i := 122) (by decide +kernel), List.mem_of_getElem? (i := 516) (by decide +kernel), List.mem_of_getElem? (i := 517) (by decide +kernel)⟩
theorem lw_p13 : lw_okq (⟨"LettersEliminated$Table", "fillBezout", "(LLettersEliminated$Poly;LLettersEliminated$Poly;III)V"⟩, 8) := ⟨⟨by decide +kernel, by decide +kernel⟩, List.mem_of_getElem? (i := 122) (by decide +kernel), List.mem_of_getElem? (i := 524) (by decide +kernel), List.mem_of_getElem? (i := 525) (by decide +kernel)⟩
theorem lw_p14 : lw_okq (⟨"LettersEliminated$Table", "reduceCell", "(II)V"⟩, 8) := ⟨⟨by decide +kernel, by decide +kernel⟩, List.mem_of_getElem? (i := 122) (by decide +kernel), List.mem_of_getElem? (i := 528) (by decide +kernel), List.mem_of_getElem? (i := 529) (by decide +kernel)⟩
theorem lw_p15 : lw_okq (⟨"LettersEliminated", "solve", "(IIII)V"⟩, 11) := ⟨⟨by decide +kernel, by decide +kernel⟩, List.mem_of_getElem? (i := 18) (by decide +kernel), List.mem_of_getElem? (i := 541) (by decide +kernel), List.mem_of_getElem? (i := 542) (by decide +kernel)⟩
def lw_privs_1 : List (MethodName × Nat) := [(⟨"LettersEliminated", "refuse", "(I)I"⟩, 11), (⟨"LettersEliminated$Reader", "next", "()I"⟩, 7), (⟨"LettersEliminated$Reader", "readTerm", "()Z"⟩, 7), (⟨"LettersEliminated$Reader", "readNumber", "()V"⟩, 7), (⟨"LettersEliminated$Reader", "readPower", "(I)I"⟩, 7), (⟨"LettersEliminated$Poly", "refresh", "(I)V"⟩, 4), (⟨"LettersEliminated$Poly", "byKind", "(III)I"⟩, 4), (⟨"LettersEliminated$Poly", "even", "(II)I"⟩, 4), (⟨"LettersEliminated$Poly", "shift", "(I)V"⟩, 4), (⟨"LettersEliminated$Past", "forgetOldest", "()V"⟩, 4), (⟨"LettersEliminated", "powersRefusal", "(III)I"⟩, 11), (⟨"LettersEliminated", "tableRefusal", "(IIII)I"⟩, 11), (⟨"LettersEliminated$Table", "fillSylvester", "(LLettersEliminated$Poly;LLettersEliminated$Poly;III)V"⟩, 8), (⟨"LettersEliminated$Table", "fillBezout", "(LLettersEliminated$Poly;LLettersEliminated$Poly;III)V"⟩, 8), (⟨"LettersEliminated$Table", "reduceCell", "(II)V"⟩, 8), (⟨"LettersEliminated", "solve", "(IIII)V"⟩, 11)]
theorem lw_r1 : ∀ q ∈ lw_privs_1, lw_okq q := List.forall_mem_cons.mpr ⟨lw_p0, List.forall_mem_cons.mpr ⟨lw_p1, List.forall_mem_cons.mpr ⟨lw_p2, List.forall_mem_cons.mpr ⟨lw_p3, List.forall_mem_cons.mpr ⟨lw_p4, List.forall_mem_cons.mpr ⟨lw_p5, List.forall_mem_cons.mpr ⟨lw_p6, List.forall_mem_cons.mpr ⟨lw_p7, List.forall_mem_cons.mpr ⟨lw_p8, List.forall_mem_cons.mpr ⟨lw_p9, List.forall_mem_cons.mpr ⟨lw_p10, List.forall_mem_cons.mpr ⟨lw_p11, List.forall_mem_cons.mpr ⟨lw_p12, List.forall_mem_cons.mpr ⟨lw_p13, List.forall_mem_cons.mpr ⟨lw_p14, List.forall_mem_cons.mpr ⟨lw_p15, fun _ h => absurd h List.not_mem_nil⟩⟩⟩⟩⟩⟩⟩⟩⟩⟩⟩⟩⟩⟩⟩⟩
theorem lw_p16 : lw_okq (⟨"LettersEliminated$Table", "expandSet", "(II)V"⟩, 8) := ⟨⟨by decide +kernel, by decide +kernel⟩, List.mem_of_getElem? (i := 122) (by decide +kernel), List.mem_of_getElem? (i := 549) (by decide +kernel), List.mem_of_getElem? (i := 550) (by decide +kernel)⟩
theorem lw_p17 : lw_okq (⟨"LettersEliminated$Table", "addMultiple", "(IIII)V"⟩, 8) := ⟨⟨by decide +kernel, by decide +kernel⟩, List.mem_of_getElem? (i := 122) (by decide +kernel), List.mem_of_getElem? (i := 559) (by decide +kernel), List.mem_of_getElem? (i := 560) (by decide +kernel)⟩
theorem lw_p18 : lw_okq (⟨"LettersEliminated", "numberRefusal", "(I)I"⟩, 11) := ⟨⟨by decide +kernel, by decide +kernel⟩, List.mem_of_getElem? (i := 18) (by decide +kernel), List.mem_of_getElem? (i := 574) (by decide +kernel), List.mem_of_getElem? (i := 575) (by decide +kernel)⟩
theorem lw_p19 : lw_okq (⟨"LettersEliminated", "divideAt", "(IIII)V"⟩, 11) := ⟨⟨by decide +kernel, by decide +kernel⟩, List.mem_of_getElem? (i := 18) (by decide +kernel), List.mem_of_getElem? (i := 583) (by decide +kernel), List.mem_of_getElem? (i := 584) (by decide +kernel)⟩
theorem lw_p20 : lw_okq (⟨"LettersEliminated$Chain", "note", "(I)V"⟩, 4) := ⟨⟨by decide +kernel, by decide +kernel⟩, List.mem_of_getElem? (i := 154) (by decide +kernel), List.mem_of_getElem? (i := 593) (by decide +kernel), List.mem_of_getElem? (i := 594) (by decide +kernel)⟩
theorem lw_p21 : lw_okq (⟨"LettersEliminated", "atRefusal", "(IIII)I"⟩, 11) := ⟨⟨by decide +kernel, by decide +kernel⟩, List.mem_of_getElem? (i := 18) (by decide +kernel), List.mem_of_getElem? (i := 612) (by decide +kernel), List.mem_of_getElem? (i := 613) (by decide +kernel)⟩
theorem lw_p22 : lw_okq (⟨"LettersEliminated$Chain", "raise", "()V"⟩, 4) := ⟨⟨by decide +kernel, by decide +kernel⟩, List.mem_of_getElem? (i := 154) (by decide +kernel), List.mem_of_getElem? (i := 634) (by decide +kernel), List.mem_of_getElem? (i := 635) (by decide +kernel)⟩
theorem lw_p23 : lw_okq (⟨"LettersEliminated", "tryAll", "(III)V"⟩, 11) := ⟨⟨by decide +kernel, by decide +kernel⟩, List.mem_of_getElem? (i := 18) (by decide +kernel), List.mem_of_getElem? (i := 655) (by decide +kernel), List.mem_of_getElem? (i := 656) (by decide +kernel)⟩
theorem lw_p24 : lw_okq (⟨"LettersEliminated$Roots", "note", "(III)V"⟩, 8) := ⟨⟨by decide +kernel, by decide +kernel⟩, List.mem_of_getElem? (i := 192) (by decide +kernel), List.mem_of_getElem? (i := 663) (by decide +kernel), List.mem_of_getElem? (i := 664) (by decide +kernel)⟩
theorem lw_p25 : lw_okq (⟨"LettersEliminated", "polygonRefusal", "(II)I"⟩, 11) := ⟨⟨by decide +kernel, by decide +kernel⟩, List.mem_of_getElem? (i := 18) (by decide +kernel), List.mem_of_getElem? (i := 679) (by decide +kernel), List.mem_of_getElem? (i := 680) (by decide +kernel)⟩
theorem lw_p26 : lw_okq (⟨"LettersEliminated$Polygon", "markMoved", "(LLettersEliminated$Poly;II)V"⟩, 3) := ⟨⟨by decide +kernel, by decide +kernel⟩, List.mem_of_getElem? (i := 176) (by decide +kernel), List.mem_of_getElem? (i := 688) (by decide +kernel), List.mem_of_getElem? (i := 689) (by decide +kernel)⟩
theorem lw_p27 : lw_okq (⟨"LettersEliminated$Polygon", "wrap", "()V"⟩, 3) := ⟨⟨by decide +kernel, by decide +kernel⟩, List.mem_of_getElem? (i := 176) (by decide +kernel), List.mem_of_getElem? (i := 693) (by decide +kernel), List.mem_of_getElem? (i := 694) (by decide +kernel)⟩
theorem lw_p28 : lw_okq (⟨"LettersEliminated$Polygon", "goOn", "(II)V"⟩, 3) := ⟨⟨by decide +kernel, by decide +kernel⟩, List.mem_of_getElem? (i := 176) (by decide +kernel), List.mem_of_getElem? (i := 697) (by decide +kernel), List.mem_of_getElem? (i := 698) (by decide +kernel)⟩
theorem lw_p29 : lw_okq (⟨"LettersEliminated$Poly", "addMultiple", "(LLettersEliminated$Poly;III)V"⟩, 4) := ⟨⟨by decide +kernel, by decide +kernel⟩, List.mem_of_getElem? (i := 33) (by decide +kernel), List.mem_of_getElem? (i := 740) (by decide +kernel), List.mem_of_getElem? (i := 741) (by decide +kernel)⟩
theorem lw_p30 : lw_okq (⟨"LettersEliminated", "refuseLong", "(I)J"⟩, 11) := ⟨⟨by decide +kernel, by decide +kernel⟩, List.mem_of_getElem? (i := 18) (by decide +kernel), List.mem_of_getElem? (i := 749) (by decide +kernel), List.mem_of_getElem? (i := 750) (by decide +kernel)⟩
theorem lw_p31 : lw_okq (⟨"LettersEliminated$Roots", "draw", "(I)I"⟩, 8) := ⟨⟨by decide +kernel, by decide +kernel⟩, List.mem_of_getElem? (i := 192) (by decide +kernel), List.mem_of_getElem? (i := 765) (by decide +kernel), List.mem_of_getElem? (i := 766) (by decide +kernel)⟩
def lw_privs_2 : List (MethodName × Nat) := [(⟨"LettersEliminated$Table", "expandSet", "(II)V"⟩, 8), (⟨"LettersEliminated$Table", "addMultiple", "(IIII)V"⟩, 8), (⟨"LettersEliminated", "numberRefusal", "(I)I"⟩, 11), (⟨"LettersEliminated", "divideAt", "(IIII)V"⟩, 11), (⟨"LettersEliminated$Chain", "note", "(I)V"⟩, 4), (⟨"LettersEliminated", "atRefusal", "(IIII)I"⟩, 11), (⟨"LettersEliminated$Chain", "raise", "()V"⟩, 4), (⟨"LettersEliminated", "tryAll", "(III)V"⟩, 11), (⟨"LettersEliminated$Roots", "note", "(III)V"⟩, 8), (⟨"LettersEliminated", "polygonRefusal", "(II)I"⟩, 11), (⟨"LettersEliminated$Polygon", "markMoved", "(LLettersEliminated$Poly;II)V"⟩, 3), (⟨"LettersEliminated$Polygon", "wrap", "()V"⟩, 3), (⟨"LettersEliminated$Polygon", "goOn", "(II)V"⟩, 3), (⟨"LettersEliminated$Poly", "addMultiple", "(LLettersEliminated$Poly;III)V"⟩, 4), (⟨"LettersEliminated", "refuseLong", "(I)J"⟩, 11), (⟨"LettersEliminated$Roots", "draw", "(I)I"⟩, 8)]
theorem lw_r2 : ∀ q ∈ lw_privs_2, lw_okq q := List.forall_mem_cons.mpr ⟨lw_p16, List.forall_mem_cons.mpr ⟨lw_p17, List.forall_mem_cons.mpr ⟨lw_p18, List.forall_mem_cons.mpr ⟨lw_p19, List.forall_mem_cons.mpr ⟨lw_p20, List.forall_mem_cons.mpr ⟨lw_p21, List.forall_mem_cons.mpr ⟨lw_p22, List.forall_mem_cons.mpr ⟨lw_p23, List.forall_mem_cons.mpr ⟨lw_p24, List.forall_mem_cons.mpr ⟨lw_p25, List.forall_mem_cons.mpr ⟨lw_p26, List.forall_mem_cons.mpr ⟨lw_p27, List.forall_mem_cons.mpr ⟨lw_p28, List.forall_mem_cons.mpr ⟨lw_p29, List.forall_mem_cons.mpr ⟨lw_p30, List.forall_mem_cons.mpr ⟨lw_p31, fun _ h => absurd h List.not_mem_nil⟩⟩⟩⟩⟩⟩⟩⟩⟩⟩⟩⟩⟩⟩⟩⟩
theorem lw_p32 : lw_okq (⟨"LettersEliminated", "placeRefusal", "(II)I"⟩, 11) := ⟨⟨by decide +kernel, by decide +kernel⟩, List.mem_of_getElem? (i := 18) (by decide +kernel), List.mem_of_getElem? (i := 793) (by decide +kernel), List.mem_of_getElem? (i := 794) (by decide +kernel)⟩
theorem lw_p33 : lw_okq (⟨"LettersEliminatedModel", "no", "(I)I"⟩, 36) := ⟨⟨by decide +kernel, by decide +kernel⟩, List.mem_of_getElem? (i := 875) (by decide +kernel), List.mem_of_getElem? (i := 995) (by decide +kernel), List.mem_of_getElem? (i := 996) (by decide +kernel)⟩
theorem lw_p34 : lw_okq (⟨"LettersEliminatedModel", "readsAll", "()Z"⟩, 36) := ⟨⟨by decide +kernel, by decide +kernel⟩, List.mem_of_getElem? (i := 875) (by decide +kernel), List.mem_of_getElem? (i := 1007) (by decide +kernel), List.mem_of_getElem? (i := 1008) (by decide +kernel)⟩
theorem lw_p35 : lw_okq (⟨"LettersEliminatedModel", "next", "()I"⟩, 36) := ⟨⟨by decide +kernel, by decide +kernel⟩, List.mem_of_getElem? (i := 875) (by decide +kernel), List.mem_of_getElem? (i := 1011) (by decide +kernel), List.mem_of_getElem? (i := 1012) (by decide +kernel)⟩
theorem lw_p36 : lw_okq (⟨"LettersEliminatedModel", "readsTerm", "(Z)Z"⟩, 36) := ⟨⟨by decide +kernel, by decide +kernel⟩, List.mem_of_getElem? (i := 875) (by decide +kernel), List.mem_of_getElem? (i := 1015) (by decide +kernel), List.mem_of_getElem? (i := 1016) (by decide +kernel)⟩
theorem lw_p37 : lw_okq (⟨"LettersEliminatedModel", "isDigit", "()Z"⟩, 36) := ⟨⟨by decide +kernel, by decide +kernel⟩, List.mem_of_getElem? (i := 875) (by decide +kernel), List.mem_of_getElem? (i := 1019) (by decide +kernel), List.mem_of_getElem? (i := 1020) (by decide +kernel)⟩
theorem lw_p38 : lw_okq (⟨"LettersEliminatedModel", "readsPower", "()I"⟩, 36) := ⟨⟨by decide +kernel, by decide +kernel⟩, List.mem_of_getElem? (i := 875) (by decide +kernel), List.mem_of_getElem? (i := 1026) (by decide +kernel), List.mem_of_getElem? (i := 1027) (by decide +kernel)⟩
theorem lw_p39 : lw_okq (⟨"LettersEliminatedModel", "rest", "(I)I"⟩, 36) := ⟨⟨by decide +kernel, by decide +kernel⟩, List.mem_of_getElem? (i := 875) (by decide +kernel), List.mem_of_getElem? (i := 1030) (by decide +kernel), List.mem_of_getElem? (i := 1031) (by decide +kernel)⟩
theorem lw_p40 : lw_okq (⟨"LettersEliminatedModel", "comes", "()I"⟩, 36) := ⟨⟨by decide +kernel, by decide +kernel⟩, List.mem_of_getElem? (i := 875) (by decide +kernel), List.mem_of_getElem? (i := 1034) (by decide +kernel), List.mem_of_getElem? (i := 1035) (by decide +kernel)⟩
theorem lw_p41 : lw_okq (⟨"LettersEliminatedModel", "isPoly", "(I)Z"⟩, 36) := ⟨⟨by decide +kernel, by decide +kernel⟩, List.mem_of_getElem? (i := 875) (by decide +kernel), List.mem_of_getElem? (i := 1053) (by decide +kernel), List.mem_of_getElem? (i := 1054) (by decide +kernel)⟩
theorem lw_p42 : lw_okq (⟨"LettersEliminatedModel", "notes", "(II)V"⟩, 36) := ⟨⟨by decide +kernel, by decide +kernel⟩, List.mem_of_getElem? (i := 875) (by decide +kernel), List.mem_of_getElem? (i := 1057) (by decide +kernel), List.mem_of_getElem? (i := 1058) (by decide +kernel)⟩
theorem lw_p43 : lw_okq (⟨"LettersEliminatedModel", "notPowers", "(III)I"⟩, 36) := ⟨⟨by decide +kernel, by decide +kernel⟩, List.mem_of_getElem? (i := 875) (by decide +kernel), List.mem_of_getElem? (i := 1065) (by decide +kernel), List.mem_of_getElem? (i := 1066) (by decide +kernel)⟩
theorem lw_p44 : lw_okq (⟨"LettersEliminatedModel", "coefficientOf", "(III)I"⟩, 36) := ⟨⟨by decide +kernel, by decide +kernel⟩, List.mem_of_getElem? (i := 875) (by decide +kernel), List.mem_of_getElem? (i := 1073) (by decide +kernel), List.mem_of_getElem? (i := 1074) (by decide +kernel)⟩
theorem lw_p45 : lw_okq (⟨"LettersEliminatedModel", "evenOf", "(III)I"⟩, 36) := ⟨⟨by decide +kernel, by decide +kernel⟩, List.mem_of_getElem? (i := 875) (by decide +kernel), List.mem_of_getElem? (i := 1077) (by decide +kernel), List.mem_of_getElem? (i := 1078) (by decide +kernel)⟩
theorem lw_p46 : lw_okq (⟨"LettersEliminatedModel", "toldOf", "(III)I"⟩, 36) := ⟨⟨by decide +kernel, by decide +kernel⟩, List.mem_of_getElem? (i := 875) (by decide +kernel), List.mem_of_getElem? (i := 1081) (by decide +kernel), List.mem_of_getElem? (i := 1082) (by decide +kernel)⟩
theorem lw_p47 : lw_okq (⟨"LettersEliminatedModel", "shiftedOf", "(III)I"⟩, 36) := ⟨⟨by decide +kernel, by decide +kernel⟩, List.mem_of_getElem? (i := 875) (by decide +kernel), List.mem_of_getElem? (i := 1085) (by decide +kernel), List.mem_of_getElem? (i := 1086) (by decide +kernel)⟩
def lw_privs_3 : List (MethodName × Nat) := [(⟨"LettersEliminated", "placeRefusal", "(II)I"⟩, 11), (⟨"LettersEliminatedModel", "no", "(I)I"⟩, 36), (⟨"LettersEliminatedModel", "readsAll", "()Z"⟩, 36), (⟨"LettersEliminatedModel", "next", "()I"⟩, 36), (⟨"LettersEliminatedModel", "readsTerm", "(Z)Z"⟩, 36), (⟨"LettersEliminatedModel", "isDigit", "()Z"⟩, 36), (⟨"LettersEliminatedModel", "readsPower", "()I"⟩, 36), (⟨"LettersEliminatedModel", "rest", "(I)I"⟩, 36), (⟨"LettersEliminatedModel", "comes", "()I"⟩, 36), (⟨"LettersEliminatedModel", "isPoly", "(I)Z"⟩, 36), (⟨"LettersEliminatedModel", "notes", "(II)V"⟩, 36), (⟨"LettersEliminatedModel", "notPowers", "(III)I"⟩, 36), (⟨"LettersEliminatedModel", "coefficientOf", "(III)I"⟩, 36), (⟨"LettersEliminatedModel", "evenOf", "(III)I"⟩, 36), (⟨"LettersEliminatedModel", "toldOf", "(III)I"⟩, 36), (⟨"LettersEliminatedModel", "shiftedOf", "(III)I"⟩, 36)]
theorem lw_r3 : ∀ q ∈ lw_privs_3, lw_okq q := List.forall_mem_cons.mpr ⟨lw_p32, List.forall_mem_cons.mpr ⟨lw_p33, List.forall_mem_cons.mpr ⟨lw_p34, List.forall_mem_cons.mpr ⟨lw_p35, List.forall_mem_cons.mpr ⟨lw_p36, List.forall_mem_cons.mpr ⟨lw_p37, List.forall_mem_cons.mpr ⟨lw_p38, List.forall_mem_cons.mpr ⟨lw_p39, List.forall_mem_cons.mpr ⟨lw_p40, List.forall_mem_cons.mpr ⟨lw_p41, List.forall_mem_cons.mpr ⟨lw_p42, List.forall_mem_cons.mpr ⟨lw_p43, List.forall_mem_cons.mpr ⟨lw_p44, List.forall_mem_cons.mpr ⟨lw_p45, List.forall_mem_cons.mpr ⟨lw_p46, List.forall_mem_cons.mpr ⟨lw_p47, fun _ h => absurd h List.not_mem_nil⟩⟩⟩⟩⟩⟩⟩⟩⟩⟩⟩⟩⟩⟩⟩⟩
theorem lw_p48 : lw_okq (⟨"LettersEliminatedModel", "power", "(II)I"⟩, 36) := ⟨⟨by decide +kernel, by decide +kernel⟩, List.mem_of_getElem? (i := 875) (by decide +kernel), List.mem_of_getElem? (i := 1089) (by decide +kernel), List.mem_of_getElem? (i := 1090) (by decide +kernel)⟩
theorem lw_p49 : lw_okq (⟨"LettersEliminatedModel", "degreeOf", "(II)I"⟩, 36) := ⟨⟨by decide +kernel, by decide +kernel⟩, List.mem_of_getElem? (i := 875) (by decide +kernel), List.mem_of_getElem? (i := 1097) (by decide +kernel), List.mem_of_getElem? (i := 1098) (by decide +kernel)⟩
theorem lw_p50 : lw_okq (⟨"LettersEliminatedModel", "isTerm", "(III)Z"⟩, 36) := ⟨⟨by decide +kernel, by decide +kernel⟩, List.mem_of_getElem? (i := 875) (by decide +kernel), List.mem_of_getElem? (i := 1101) (by decide +kernel), List.mem_of_getElem? (i := 1102) (by decide +kernel)⟩
theorem lw_p51 : lw_okq (⟨"LettersEliminatedModel", "termsOf", "(I)I"⟩, 36) := ⟨⟨by decide +kernel, by decide +kernel⟩, List.mem_of_getElem? (i := 875) (by decide +kernel), List.mem_of_getElem? (i := 1105) (by decide +kernel), List.mem_of_getElem? (i := 1106) (by decide +kernel)⟩
theorem lw_p52 : lw_okq (⟨"LettersEliminatedModel", "valueAt", "(III)I"⟩, 36) := ⟨⟨by decide +kernel, by decide +kernel⟩, List.mem_of_getElem? (i := 875) (by decide +kernel), List.mem_of_getElem? (i := 1117) (by decide +kernel), List.mem_of_getElem? (i := 1118) (by decide +kernel)⟩
theorem lw_p53 : lw_okq (⟨"LettersEliminatedModel", "notTable", "(IIII)I"⟩, 36) := ⟨⟨by decide +kernel, by decide +kernel⟩, List.mem_of_getElem? (i := 875) (by decide +kernel), List.mem_of_getElem? (i := 1125) (by decide +kernel), List.mem_of_getElem? (i := 1126) (by decide +kernel)⟩
theorem lw_p54 : lw_okq (⟨"LettersEliminatedModel", "notTwo", "(III)I"⟩, 36) := ⟨⟨by decide +kernel, by decide +kernel⟩, List.mem_of_getElem? (i := 875) (by decide +kernel), List.mem_of_getElem? (i := 1129) (by decide +kernel), List.mem_of_getElem? (i := 1130) (by decide +kernel)⟩
theorem lw_p55 : lw_okq (⟨"LettersEliminatedModel", "isNought", "(I)Z"⟩, 36) := ⟨⟨by decide +kernel, by decide +kernel⟩, List.mem_of_getElem? (i := 875) (by decide +kernel), List.mem_of_getElem? (i := 1133) (by decide +kernel), List.mem_of_getElem? (i := 1134) (by decide +kernel)⟩
theorem lw_p56 : lw_okq (⟨"LettersEliminatedModel", "fills", "(IIII)V"⟩, 36) := ⟨⟨by decide +kernel, by decide +kernel⟩, List.mem_of_getElem? (i := 875) (by decide +kernel), List.mem_of_getElem? (i := 1137) (by decide +kernel), List.mem_of_getElem? (i := 1138) (by decide +kernel)⟩
theorem lw_p57 : lw_okq (⟨"LettersEliminatedModel", "takes", "(III)V"⟩, 36) := ⟨⟨by decide +kernel, by decide +kernel⟩, List.mem_of_getElem? (i := 875) (by decide +kernel), List.mem_of_getElem? (i := 1141) (by decide +kernel), List.mem_of_getElem? (i := 1142) (by decide +kernel)⟩
theorem lw_p58 : lw_okq (⟨"LettersEliminatedModel", "fillsSylvester", "()V"⟩, 36) := ⟨⟨by decide +kernel, by decide +kernel⟩, List.mem_of_getElem? (i := 875) (by decide +kernel), List.mem_of_getElem? (i := 1145) (by decide +kernel), List.mem_of_getElem? (i := 1146) (by decide +kernel)⟩
theorem lw_p59 : lw_okq (⟨"LettersEliminatedModel", "oneAt", "(II)I"⟩, 36) := ⟨⟨by decide +kernel, by decide +kernel⟩, List.mem_of_getElem? (i := 875) (by decide +kernel), List.mem_of_getElem? (i := 1149) (by decide +kernel), List.mem_of_getElem? (i := 1150) (by decide +kernel)⟩
theorem lw_p60 : lw_okq (⟨"LettersEliminatedModel", "twoAt", "(II)I"⟩, 36) := ⟨⟨by decide +kernel, by decide +kernel⟩, List.mem_of_getElem? (i := 875) (by decide +kernel), List.mem_of_getElem? (i := 1153) (by decide +kernel), List.mem_of_getElem? (i := 1154) (by decide +kernel)⟩
theorem lw_p61 : lw_okq (⟨"LettersEliminatedModel", "fillsBezout", "()V"⟩, 36) := ⟨⟨by decide +kernel, by decide +kernel⟩, List.mem_of_getElem? (i := 875) (by decide +kernel), List.mem_of_getElem? (i := 1157) (by decide +kernel), List.mem_of_getElem? (i := 1158) (by decide +kernel)⟩
theorem lw_p62 : lw_okq (⟨"LettersEliminatedModel", "bezoutAt", "(III)I"⟩, 36) := ⟨⟨by decide +kernel, by decide +kernel⟩, List.mem_of_getElem? (i := 875) (by decide +kernel), List.mem_of_getElem? (i := 1161) (by decide +kernel), List.mem_of_getElem? (i := 1162) (by decide +kernel)⟩
theorem lw_p63 : lw_okq (⟨"LettersEliminatedModel", "productAt", "(III)I"⟩, 36) := ⟨⟨by decide +kernel, by decide +kernel⟩, List.mem_of_getElem? (i := 875) (by decide +kernel), List.mem_of_getElem? (i := 1165) (by decide +kernel), List.mem_of_getElem? (i := 1166) (by decide +kernel)⟩
def lw_privs_4 : List (MethodName × Nat) := [(⟨"LettersEliminatedModel", "power", "(II)I"⟩, 36), (⟨"LettersEliminatedModel", "degreeOf", "(II)I"⟩, 36), (⟨"LettersEliminatedModel", "isTerm", "(III)Z"⟩, 36), (⟨"LettersEliminatedModel", "termsOf", "(I)I"⟩, 36), (⟨"LettersEliminatedModel", "valueAt", "(III)I"⟩, 36), (⟨"LettersEliminatedModel", "notTable", "(IIII)I"⟩, 36), (⟨"LettersEliminatedModel", "notTwo", "(III)I"⟩, 36), (⟨"LettersEliminatedModel", "isNought", "(I)Z"⟩, 36), (⟨"LettersEliminatedModel", "fills", "(IIII)V"⟩, 36), (⟨"LettersEliminatedModel", "takes", "(III)V"⟩, 36), (⟨"LettersEliminatedModel", "fillsSylvester", "()V"⟩, 36), (⟨"LettersEliminatedModel", "oneAt", "(II)I"⟩, 36), (⟨"LettersEliminatedModel", "twoAt", "(II)I"⟩, 36), (⟨"LettersEliminatedModel", "fillsBezout", "()V"⟩, 36), (⟨"LettersEliminatedModel", "bezoutAt", "(III)I"⟩, 36), (⟨"LettersEliminatedModel", "productAt", "(III)I"⟩, 36)]
theorem lw_r4 : ∀ q ∈ lw_privs_4, lw_okq q := List.forall_mem_cons.mpr ⟨lw_p48, List.forall_mem_cons.mpr ⟨lw_p49, List.forall_mem_cons.mpr ⟨lw_p50, List.forall_mem_cons.mpr ⟨lw_p51, List.forall_mem_cons.mpr ⟨lw_p52, List.forall_mem_cons.mpr ⟨lw_p53, List.forall_mem_cons.mpr ⟨lw_p54, List.forall_mem_cons.mpr ⟨lw_p55, List.forall_mem_cons.mpr ⟨lw_p56, List.forall_mem_cons.mpr ⟨lw_p57, List.forall_mem_cons.mpr ⟨lw_p58, List.forall_mem_cons.mpr ⟨lw_p59, List.forall_mem_cons.mpr ⟨lw_p60, List.forall_mem_cons.mpr ⟨lw_p61, List.forall_mem_cons.mpr ⟨lw_p62, List.forall_mem_cons.mpr ⟨lw_p63, fun _ h => absurd h List.not_mem_nil⟩⟩⟩⟩⟩⟩⟩⟩⟩⟩⟩⟩⟩⟩⟩⟩
theorem lw_p64 : lw_okq (⟨"LettersEliminatedModel", "results", "(IIII)V"⟩, 36) := ⟨⟨by decide +kernel, by decide +kernel⟩, List.mem_of_getElem? (i := 875) (by decide +kernel), List.mem_of_getElem? (i := 1177) (by decide +kernel), List.mem_of_getElem? (i := 1178) (by decide +kernel)⟩
theorem lw_p65 : lw_okq (⟨"LettersEliminatedModel", "determinant", "()I"⟩, 36) := ⟨⟨by decide +kernel, by decide +kernel⟩, List.mem_of_getElem? (i := 875) (by decide +kernel), List.mem_of_getElem? (i := 1181) (by decide +kernel), List.mem_of_getElem? (i := 1182) (by decide +kernel)⟩
theorem lw_p66 : lw_okq (⟨"LettersEliminatedModel", "addsColumn", "(II)V"⟩, 36) := ⟨⟨by decide +kernel, by decide +kernel⟩, List.mem_of_getElem? (i := 875) (by decide +kernel), List.mem_of_getElem? (i := 1185) (by decide +kernel), List.mem_of_getElem? (i := 1186) (by decide +kernel)⟩
theorem lw_p67 : lw_okq (⟨"LettersEliminatedModel", "resultAt", "(I)I"⟩, 36) := ⟨⟨by decide +kernel, by decide +kernel⟩, List.mem_of_getElem? (i := 875) (by decide +kernel), List.mem_of_getElem? (i := 1200) (by decide +kernel), List.mem_of_getElem? (i := 1201) (by decide +kernel)⟩
theorem lw_p68 : lw_okq (⟨"LettersEliminatedModel", "notBoth", "(III)I"⟩, 36) := ⟨⟨by decide +kernel, by decide +kernel⟩, List.mem_of_getElem? (i := 875) (by decide +kernel), List.mem_of_getElem? (i := 1208) (by decide +kernel), List.mem_of_getElem? (i := 1209) (by decide +kernel)⟩
theorem lw_p69 : lw_okq (⟨"LettersEliminatedModel", "standsAt", "(I)V"⟩, 36) := ⟨⟨by decide +kernel, by decide +kernel⟩, List.mem_of_getElem? (i := 875) (by decide +kernel), List.mem_of_getElem? (i := 1212) (by decide +kernel), List.mem_of_getElem? (i := 1213) (by decide +kernel)⟩
theorem lw_p70 : lw_okq (⟨"LettersEliminatedModel", "remains", "(I)I"⟩, 36) := ⟨⟨by decide +kernel, by decide +kernel⟩, List.mem_of_getElem? (i := 875) (by decide +kernel), List.mem_of_getElem? (i := 1219) (by decide +kernel), List.mem_of_getElem? (i := 1220) (by decide +kernel)⟩
theorem lw_p71 : lw_okq (⟨"LettersEliminatedModel", "takesLeft", "([I)V"⟩, 36) := ⟨⟨by decide +kernel, by decide +kernel⟩, List.mem_of_getElem? (i := 875) (by decide +kernel), List.mem_of_getElem? (i := 1223) (by decide +kernel), List.mem_of_getElem? (i := 1224) (by decide +kernel)⟩
theorem lw_p72 : lw_okq (⟨"LettersEliminatedModel", "divides", "([II)V"⟩, 36) := ⟨⟨by decide +kernel, by decide +kernel⟩, List.mem_of_getElem? (i := 875) (by decide +kernel), List.mem_of_getElem? (i := 1227) (by decide +kernel), List.mem_of_getElem? (i := 1228) (by decide +kernel)⟩
theorem lw_p73 : lw_okq (⟨"LettersEliminatedModel", "inverse", "(I)I"⟩, 36) := ⟨⟨by decide +kernel, by decide +kernel⟩, List.mem_of_getElem? (i := 875) (by decide +kernel), List.mem_of_getElem? (i := 1231) (by decide +kernel), List.mem_of_getElem? (i := 1232) (by decide +kernel)⟩
theorem lw_p74 : lw_okq (⟨"LettersEliminatedModel", "notAt", "(IIII)I"⟩, 36) := ⟨⟨by decide +kernel, by decide +kernel⟩, List.mem_of_getElem? (i := 875) (by decide +kernel), List.mem_of_getElem? (i := 1239) (by decide +kernel), List.mem_of_getElem? (i := 1240) (by decide +kernel)⟩
theorem lw_p75 : lw_okq (⟨"LettersEliminatedModel", "isRoot", "(IIII)Z"⟩, 36) := ⟨⟨by decide +kernel, by decide +kernel⟩, List.mem_of_getElem? (i := 875) (by decide +kernel), List.mem_of_getElem? (i := 1259) (by decide +kernel), List.mem_of_getElem? (i := 1260) (by decide +kernel)⟩
theorem lw_p76 : lw_okq (⟨"LettersEliminatedModel", "wrapsOne", "(I)V"⟩, 36) := ⟨⟨by decide +kernel, by decide +kernel⟩, List.mem_of_getElem? (i := 875) (by decide +kernel), List.mem_of_getElem? (i := 1275) (by decide +kernel), List.mem_of_getElem? (i := 1276) (by decide +kernel)⟩
theorem lw_p77 : lw_okq (⟨"LettersEliminatedModel", "clears", "()V"⟩, 36) := ⟨⟨by decide +kernel, by decide +kernel⟩, List.mem_of_getElem? (i := 875) (by decide +kernel), List.mem_of_getElem? (i := 1279) (by decide +kernel), List.mem_of_getElem? (i := 1280) (by decide +kernel)⟩
theorem lw_p78 : lw_okq (⟨"LettersEliminatedModel", "wraps", "()V"⟩, 36) := ⟨⟨by decide +kernel, by decide +kernel⟩, List.mem_of_getElem? (i := 875) (by decide +kernel), List.mem_of_getElem? (i := 1283) (by decide +kernel), List.mem_of_getElem? (i := 1284) (by decide +kernel)⟩
theorem lw_p79 : lw_okq (⟨"LettersEliminatedModel", "behind", "(I)I"⟩, 36) := ⟨⟨by decide +kernel, by decide +kernel⟩, List.mem_of_getElem? (i := 875) (by decide +kernel), List.mem_of_getElem? (i := 1287) (by decide +kernel), List.mem_of_getElem? (i := 1288) (by decide +kernel)⟩
def lw_privs_5 : List (MethodName × Nat) := [(⟨"LettersEliminatedModel", "results", "(IIII)V"⟩, 36), (⟨"LettersEliminatedModel", "determinant", "()I"⟩, 36), (⟨"LettersEliminatedModel", "addsColumn", "(II)V"⟩, 36), (⟨"LettersEliminatedModel", "resultAt", "(I)I"⟩, 36), (⟨"LettersEliminatedModel", "notBoth", "(III)I"⟩, 36), (⟨"LettersEliminatedModel", "standsAt", "(I)V"⟩, 36), (⟨"LettersEliminatedModel", "remains", "(I)I"⟩, 36), (⟨"LettersEliminatedModel", "takesLeft", "([I)V"⟩, 36), (⟨"LettersEliminatedModel", "divides", "([II)V"⟩, 36), (⟨"LettersEliminatedModel", "inverse", "(I)I"⟩, 36), (⟨"LettersEliminatedModel", "notAt", "(IIII)I"⟩, 36), (⟨"LettersEliminatedModel", "isRoot", "(IIII)Z"⟩, 36), (⟨"LettersEliminatedModel", "wrapsOne", "(I)V"⟩, 36), (⟨"LettersEliminatedModel", "clears", "()V"⟩, 36), (⟨"LettersEliminatedModel", "wraps", "()V"⟩, 36), (⟨"LettersEliminatedModel", "behind", "(I)I"⟩, 36)]
theorem lw_r5 : ∀ q ∈ lw_privs_5, lw_okq q := List.forall_mem_cons.mpr ⟨lw_p64, List.forall_mem_cons.mpr ⟨lw_p65, List.forall_mem_cons.mpr ⟨lw_p66, List.forall_mem_cons.mpr ⟨lw_p67, List.forall_mem_cons.mpr ⟨lw_p68, List.forall_mem_cons.mpr ⟨lw_p69, List.forall_mem_cons.mpr ⟨lw_p70, List.forall_mem_cons.mpr ⟨lw_p71, List.forall_mem_cons.mpr ⟨lw_p72, List.forall_mem_cons.mpr ⟨lw_p73, List.forall_mem_cons.mpr ⟨lw_p74, List.forall_mem_cons.mpr ⟨lw_p75, List.forall_mem_cons.mpr ⟨lw_p76, List.forall_mem_cons.mpr ⟨lw_p77, List.forall_mem_cons.mpr ⟨lw_p78, List.forall_mem_cons.mpr ⟨lw_p79, fun _ h => absurd h List.not_mem_nil⟩⟩⟩⟩⟩⟩⟩⟩⟩⟩⟩⟩⟩⟩⟩⟩
theorem lw_p80 : lw_okq (⟨"LettersEliminatedModel", "cornerAt", "(I)I"⟩, 36) := ⟨⟨by decide +kernel, by decide +kernel⟩, List.mem_of_getElem? (i := 875) (by decide +kernel), List.mem_of_getElem? (i := 1297) (by decide +kernel), List.mem_of_getElem? (i := 1298) (by decide +kernel)⟩
theorem lw_p81 : lw_okq (⟨"LettersEliminatedModel", "areaOf", "(I)I"⟩, 36) := ⟨⟨by decide +kernel, by decide +kernel⟩, List.mem_of_getElem? (i := 875) (by decide +kernel), List.mem_of_getElem? (i := 1305) (by decide +kernel), List.mem_of_getElem? (i := 1306) (by decide +kernel)⟩
theorem lw_p82 : lw_okq (⟨"LettersEliminatedModel", "areaNow", "()I"⟩, 36) := ⟨⟨by decide +kernel, by decide +kernel⟩, List.mem_of_getElem? (i := 875) (by decide +kernel), List.mem_of_getElem? (i := 1309) (by decide +kernel), List.mem_of_getElem? (i := 1310) (by decide +kernel)⟩
theorem lw_p83 : lw_okq (⟨"LettersEliminatedModel", "wrapsSum", "(II)V"⟩, 36) := ⟨⟨by decide +kernel, by decide +kernel⟩, List.mem_of_getElem? (i := 875) (by decide +kernel), List.mem_of_getElem? (i := 1317) (by decide +kernel), List.mem_of_getElem? (i := 1318) (by decide +kernel)⟩
theorem lw_p84 : lw_okq (⟨"LettersEliminatedModel", "multiplies", "(II)Z"⟩, 36) := ⟨⟨by decide +kernel, by decide +kernel⟩, List.mem_of_getElem? (i := 875) (by decide +kernel), List.mem_of_getElem? (i := 1329) (by decide +kernel), List.mem_of_getElem? (i := 1330) (by decide +kernel)⟩
theorem lw_p85 : lw_okq (⟨"LettersEliminatedModel", "lowest", "(I)J"⟩, 36) := ⟨⟨by decide +kernel, by decide +kernel⟩, List.mem_of_getElem? (i := 875) (by decide +kernel), List.mem_of_getElem? (i := 1337) (by decide +kernel), List.mem_of_getElem? (i := 1338) (by decide +kernel)⟩
theorem lw_p86 : lw_okq (⟨"LettersEliminatedModel", "draw", "(I)I"⟩, 36) := ⟨⟨by decide +kernel, by decide +kernel⟩, List.mem_of_getElem? (i := 875) (by decide +kernel), List.mem_of_getElem? (i := 1349) (by decide +kernel), List.mem_of_getElem? (i := 1350) (by decide +kernel)⟩
theorem lw_p87 : lw_okq (⟨"LettersEliminatedModel", "notPlace", "(II)I"⟩, 36) := ⟨⟨by decide +kernel, by decide +kernel⟩, List.mem_of_getElem? (i := 875) (by decide +kernel), List.mem_of_getElem? (i := 1367) (by decide +kernel), List.mem_of_getElem? (i := 1368) (by decide +kernel)⟩
theorem lw_p88 : lw_okq (⟨"LettersEliminatedModel", "notListed", "(IIIII)I"⟩, 36) := ⟨⟨by decide +kernel, by decide +kernel⟩, List.mem_of_getElem? (i := 875) (by decide +kernel), List.mem_of_getElem? (i := 1379) (by decide +kernel), List.mem_of_getElem? (i := 1380) (by decide +kernel)⟩
theorem lw_p89 : lw_okq (⟨"LettersEliminatedModel", "passesAll", "(Z)V"⟩, 36) := ⟨⟨by decide +kernel, by decide +kernel⟩, List.mem_of_getElem? (i := 875) (by decide +kernel), List.mem_of_getElem? (i := 1391) (by decide +kernel), List.mem_of_getElem? (i := 1392) (by decide +kernel)⟩
theorem lw_p90 : lw_okq (⟨"LettersEliminatedModel", "passOne", "(I)I"⟩, 36) := ⟨⟨by decide +kernel, by decide +kernel⟩, List.mem_of_getElem? (i := 875) (by decide +kernel), List.mem_of_getElem? (i := 1395) (by decide +kernel), List.mem_of_getElem? (i := 1396) (by decide +kernel)⟩
def lw_privs_6 : List (MethodName × Nat) := [(⟨"LettersEliminatedModel", "cornerAt", "(I)I"⟩, 36), (⟨"LettersEliminatedModel", "areaOf", "(I)I"⟩, 36), (⟨"LettersEliminatedModel", "areaNow", "()I"⟩, 36), (⟨"LettersEliminatedModel", "wrapsSum", "(II)V"⟩, 36), (⟨"LettersEliminatedModel", "multiplies", "(II)Z"⟩, 36), (⟨"LettersEliminatedModel", "lowest", "(I)J"⟩, 36), (⟨"LettersEliminatedModel", "draw", "(I)I"⟩, 36), (⟨"LettersEliminatedModel", "notPlace", "(II)I"⟩, 36), (⟨"LettersEliminatedModel", "notListed", "(IIIII)I"⟩, 36), (⟨"LettersEliminatedModel", "passesAll", "(Z)V"⟩, 36), (⟨"LettersEliminatedModel", "passOne", "(I)I"⟩, 36)]
theorem lw_r6 : ∀ q ∈ lw_privs_6, lw_okq q := List.forall_mem_cons.mpr ⟨lw_p80, List.forall_mem_cons.mpr ⟨lw_p81, List.forall_mem_cons.mpr ⟨lw_p82, List.forall_mem_cons.mpr ⟨lw_p83, List.forall_mem_cons.mpr ⟨lw_p84, List.forall_mem_cons.mpr ⟨lw_p85, List.forall_mem_cons.mpr ⟨lw_p86, List.forall_mem_cons.mpr ⟨lw_p87, List.forall_mem_cons.mpr ⟨lw_p88, List.forall_mem_cons.mpr ⟨lw_p89, List.forall_mem_cons.mpr ⟨lw_p90, fun _ h => absurd h List.not_mem_nil⟩⟩⟩⟩⟩⟩⟩⟩⟩⟩⟩
def lw_privs : List (MethodName × Nat) := lw_privs_1 ++ (lw_privs_2 ++ (lw_privs_3 ++ (lw_privs_4 ++ (lw_privs_5 ++ (lw_privs_6)))))
def lw_tbl : List Cond := k2_sels lw_privs ++ tables_1
theorem lw_privs_ok : ∀ q ∈ lw_privs, lw_okq q := by
  show ∀ q ∈ lw_privs_1 ++ (lw_privs_2 ++ (lw_privs_3 ++ (lw_privs_4 ++ (lw_privs_5 ++ (lw_privs_6))))), lw_okq q
  exact List.forall_mem_append.mpr ⟨lw_r1, List.forall_mem_append.mpr ⟨lw_r2, List.forall_mem_append.mpr ⟨lw_r3, List.forall_mem_append.mpr ⟨lw_r4, List.forall_mem_append.mpr ⟨lw_r5, lw_r6⟩⟩⟩⟩⟩

def RX0 : String := "LettersEliminated$Chain"
def TX0 : u_T := fun k => match k with
  | 0 => ("LettersEliminated$Chain", "first", "[I", true)
  | 1 => ("LettersEliminated$Chain", "second", "[I", true)
  | 2 => ("LettersEliminated$Chain", "links", "I", false)
  | _ => ("LettersEliminated$Chain", "degrees", "[I", true)
def tyX0 : Nat → FieldType := fun k => match k with
  | 0 => .array .int
  | 1 => .array .int
  | 2 => .int
  | _ => .array .int
abbrev wsX00 : List Cond := u_ws RX0 TX0 4
theorem nmX0 : ∀ a, a < 4 → ∀ b, b < 4 → a ≠ b → (TX0 a).2.1 ≠ (TX0 b).2.1 := by decide +kernel
theorem tyX0_ok : ∀ k, k < 4 → parseFieldDescriptor (TX0 k).2.2.1 = some (tyX0 k) := by decide +kernel
def yX0_init : MethodName := ⟨RX0, "<init>", "()V"⟩
def yX0_divideOn : MethodName := ⟨RX0, "divideOn", "(I)V"⟩
def yX0_note : MethodName := ⟨RX0, "note", "(I)V"⟩
def yX0_divide : MethodName := ⟨RX0, "divide", "([I[II)V"⟩
def yX0_linkDegree : MethodName := ⟨RX0, "linkDegree", "(I)I"⟩
def yX0_lastDegree : MethodName := ⟨RX0, "lastDegree", "()I"⟩
def yX0_layMultiples : MethodName := ⟨RX0, "layMultiples", "(LLettersEliminated$Table;II)V"⟩
def yX0_raise : MethodName := ⟨RX0, "raise", "()V"⟩
def RX1 : String := "LettersEliminated$Lists"
def TX1 : u_T := fun k => match k with
  | 0 => ("LettersEliminated$Lists", "sizes", "[I", true)
  | _ => ("LettersEliminated$Lists", "places", "[I", true)
def tyX1 : Nat → FieldType := fun k => match k with
  | 0 => .array .int
  | _ => .array .int
abbrev wsX10 : List Cond := u_ws RX1 TX1 2
theorem nmX1 : ∀ a, a < 2 → ∀ b, b < 2 → a ≠ b → (TX1 a).2.1 ≠ (TX1 b).2.1 := by decide +kernel
theorem tyX1_ok : ∀ k, k < 2 → parseFieldDescriptor (TX1 k).2.2.1 = some (tyX1 k) := by decide +kernel
def yX1_init : MethodName := ⟨RX1, "<init>", "()V"⟩
def yX1_has : MethodName := ⟨RX1, "has", "(I)Z"⟩
def yX1_isMissing : MethodName := ⟨RX1, "isMissing", "(I)Z"⟩
def yX1_hasPlace : MethodName := ⟨RX1, "hasPlace", "(II)Z"⟩
def yX1_make : MethodName := ⟨RX1, "make", "(II)V"⟩
def yX1_write : MethodName := ⟨RX1, "write", "(III)V"⟩
def yX1_readAt : MethodName := ⟨RX1, "readAt", "(II)I"⟩
def yX1_lay : MethodName := ⟨RX1, "lay", "(II[I)I"⟩
def yX1_firstUnlike : MethodName := ⟨RX1, "firstUnlike", "(I[II)I"⟩
def RX2 : String := "LettersEliminated$Numbers"
def TX2 : u_T := fun k => match k with
  | _ => ("", "", "", false)
def tyX2 : Nat → FieldType := fun k => match k with
  | _ => .int
abbrev wsX20 : List Cond := u_ws RX2 TX2 0
theorem nmX2 : ∀ a, a < 0 → ∀ b, b < 0 → a ≠ b → (TX2 a).2.1 ≠ (TX2 b).2.1 := by decide +kernel
theorem tyX2_ok : ∀ k, k < 0 → parseFieldDescriptor (TX2 k).2.2.1 = some (tyX2 k) := by decide +kernel
def yX2_isPrime : MethodName := ⟨RX2, "isPrime", "(I)Z"⟩
def yX2_power : MethodName := ⟨RX2, "power", "(III)I"⟩
def yX2_inverse : MethodName := ⟨RX2, "inverse", "(II)I"⟩
def yX2_degreeOf : MethodName := ⟨RX2, "degreeOf", "([I)I"⟩
def yX2_valueAt : MethodName := ⟨RX2, "valueAt", "([III)I"⟩
def yX2_commonDivisor : MethodName := ⟨RX2, "commonDivisor", "(II)I"⟩
def RX3 : String := "LettersEliminated$Past"
def TX3 : u_T := fun k => match k with
  | 0 => ("LettersEliminated$Past", "size", "I", false)
  | 1 => ("LettersEliminated$Past", "whose", "[I", true)
  | 2 => ("LettersEliminated$Past", "where", "[I", true)
  | _ => ("LettersEliminated$Past", "before", "[I", true)
def tyX3 : Nat → FieldType := fun k => match k with
  | 0 => .int
  | 1 => .array .int
  | 2 => .array .int
  | _ => .array .int
abbrev wsX30 : List Cond := u_ws RX3 TX3 4
theorem nmX3 : ∀ a, a < 4 → ∀ b, b < 4 → a ≠ b → (TX3 a).2.1 ≠ (TX3 b).2.1 := by decide +kernel
theorem tyX3_ok : ∀ k, k < 4 → parseFieldDescriptor (TX3 k).2.2.1 = some (tyX3 k) := by decide +kernel
def yX3_init : MethodName := ⟨RX3, "<init>", "()V"⟩
def yX3_forget : MethodName := ⟨RX3, "forget", "()V"⟩
def yX3_note : MethodName := ⟨RX3, "note", "(III)V"⟩
def yX3_forgetOldest : MethodName := ⟨RX3, "forgetOldest", "()V"⟩
def yX3_takeBack : MethodName := ⟨RX3, "takeBack", "(LLettersEliminated$Shelf;)V"⟩
def RX4 : String := "LettersEliminated$Poly"
def TX4 : u_T := fun k => match k with
  | 0 => ("LettersEliminated$Poly", "kind", "I", false)
  | 1 => ("LettersEliminated$Poly", "figure", "I", false)
  | 2 => ("LettersEliminated$Poly", "told", "[I", true)
  | _ => ("LettersEliminated$Poly", "coefs", "[I", true)
def tyX4 : Nat → FieldType := fun k => match k with
  | 0 => .int
  | 1 => .int
  | 2 => .array .int
  | _ => .array .int
abbrev wsX40 : List Cond := u_ws RX4 TX4 4
theorem nmX4 : ∀ a, a < 4 → ∀ b, b < 4 → a ≠ b → (TX4 a).2.1 ≠ (TX4 b).2.1 := by decide +kernel
theorem tyX4_ok : ∀ k, k < 4 → parseFieldDescriptor (TX4 k).2.2.1 = some (tyX4 k) := by decide +kernel
def yX4_init : MethodName := ⟨RX4, "<init>", "()V"⟩
def yX4_copyFrom : MethodName := ⟨RX4, "copyFrom", "(LLettersEliminated$Poly;)V"⟩
def yX4_clear : MethodName := ⟨RX4, "clear", "()V"⟩
def yX4_become : MethodName := ⟨RX4, "become", "(III)V"⟩
def yX4_tell : MethodName := ⟨RX4, "tell", "(III)V"⟩
def yX4_reduceBy : MethodName := ⟨RX4, "reduceBy", "(I)V"⟩
def yX4_refresh : MethodName := ⟨RX4, "refresh", "(I)V"⟩
def yX4_byKind : MethodName := ⟨RX4, "byKind", "(III)I"⟩
def yX4_even : MethodName := ⟨RX4, "even", "(II)I"⟩
def yX4_shift : MethodName := ⟨RX4, "shift", "(I)V"⟩
def yX4_hasTerm : MethodName := ⟨RX4, "hasTerm", "(II)Z"⟩
def yX4_isNought : MethodName := ⟨RX4, "isNought", "()Z"⟩
def yX4_howManyTerms : MethodName := ⟨RX4, "howManyTerms", "()I"⟩
def yX4_degreeIn : MethodName := ⟨RX4, "degreeIn", "(I)I"⟩
def yX4_wholeDegree : MethodName := ⟨RX4, "wholeDegree", "()I"⟩
def yX4_termByLetter : MethodName := ⟨RX4, "termByLetter", "(I)I"⟩
def yX4_termByWhole : MethodName := ⟨RX4, "termByWhole", "(I)I"⟩
def yX4_part : MethodName := ⟨RX4, "part", "(III)I"⟩
def yX4_reduceAt : MethodName := ⟨RX4, "reduceAt", "(III[I)V"⟩
def yX4_leadingPart : MethodName := ⟨RX4, "leadingPart", "(I[I)V"⟩
def yX4_multipliesWith : MethodName := ⟨RX4, "multipliesWith", "(LLettersEliminated$Poly;)Z"⟩
def yX4_multiply : MethodName := ⟨RX4, "multiply", "(LLettersEliminated$Poly;LLettersEliminated$Poly;I)V"⟩
def yX4_addMultiple : MethodName := ⟨RX4, "addMultiple", "(LLettersEliminated$Poly;III)V"⟩
def RX5 : String := "LettersEliminated$Polygon"
def TX5 : u_T := fun k => match k with
  | 0 => ("LettersEliminated$Polygon", "marked", "[I", true)
  | 1 => ("LettersEliminated$Polygon", "corners", "[I", true)
  | _ => ("LettersEliminated$Polygon", "size", "I", false)
def tyX5 : Nat → FieldType := fun k => match k with
  | 0 => .array .int
  | 1 => .array .int
  | _ => .int
abbrev wsX50 : List Cond := u_ws RX5 TX5 3
theorem nmX5 : ∀ a, a < 3 → ∀ b, b < 3 → a ≠ b → (TX5 a).2.1 ≠ (TX5 b).2.1 := by decide +kernel
theorem tyX5_ok : ∀ k, k < 3 → parseFieldDescriptor (TX5 k).2.2.1 = some (tyX5 k) := by decide +kernel
def yX5_init : MethodName := ⟨RX5, "<init>", "()V"⟩
def yX5_ofOne : MethodName := ⟨RX5, "ofOne", "(LLettersEliminated$Poly;)V"⟩
def yX5_ofTwo : MethodName := ⟨RX5, "ofTwo", "(LLettersEliminated$Poly;LLettersEliminated$Poly;)V"⟩
def yX5_markMoved : MethodName := ⟨RX5, "markMoved", "(LLettersEliminated$Poly;II)V"⟩
def yX5_wrap : MethodName := ⟨RX5, "wrap", "()V"⟩
def yX5_goOn : MethodName := ⟨RX5, "goOn", "(II)V"⟩
def yX5_turning : MethodName := ⟨RX5, "turning", "(III)I"⟩
def yX5_cornerCode : MethodName := ⟨RX5, "cornerCode", "(I)I"⟩
def yX5_twiceCovered : MethodName := ⟨RX5, "twiceCovered", "()I"⟩
def RX6 : String := "LettersEliminated$Reader"
def TX6 : u_T := fun k => match k with
  | 0 => ("LettersEliminated$Reader", "size", "I", false)
  | 1 => ("LettersEliminated$Reader", "sums", "[I", true)
  | 2 => ("LettersEliminated$Reader", "letters", "[I", true)
  | 3 => ("LettersEliminated$Reader", "place", "I", false)
  | 4 => ("LettersEliminated$Reader", "number", "I", false)
  | 5 => ("LettersEliminated$Reader", "powerOfX", "I", false)
  | _ => ("LettersEliminated$Reader", "powerOfY", "I", false)
def tyX6 : Nat → FieldType := fun k => match k with
  | 0 => .int
  | 1 => .array .int
  | 2 => .array .int
  | 3 => .int
  | 4 => .int
  | 5 => .int
  | _ => .int
abbrev wsX60 : List Cond := u_ws RX6 TX6 7
theorem nmX6 : ∀ a, a < 7 → ∀ b, b < 7 → a ≠ b → (TX6 a).2.1 ≠ (TX6 b).2.1 := by decide +kernel
theorem tyX6_ok : ∀ k, k < 7 → parseFieldDescriptor (TX6 k).2.2.1 = some (tyX6 k) := by decide +kernel
def yX6_init : MethodName := ⟨RX6, "<init>", "()V"⟩
def yX6_isFull : MethodName := ⟨RX6, "isFull", "()Z"⟩
def yX6_take : MethodName := ⟨RX6, "take", "(I)I"⟩
def yX6_forget : MethodName := ⟨RX6, "forget", "()V"⟩
def yX6_read : MethodName := ⟨RX6, "read", "()I"⟩
def yX6_next : MethodName := ⟨RX6, "next", "()I"⟩
def yX6_readTerm : MethodName := ⟨RX6, "readTerm", "()Z"⟩
def yX6_readNumber : MethodName := ⟨RX6, "readNumber", "()V"⟩
def yX6_readPower : MethodName := ⟨RX6, "readPower", "(I)I"⟩
def RX7 : String := "LettersEliminated$Roots"
def TX7 : u_T := fun k => match k with
  | 0 => ("LettersEliminated$Roots", "found", "I", false)
  | 1 => ("LettersEliminated$Roots", "foundWithoutNoughts", "I", false)
  | 2 => ("LettersEliminated$Roots", "wantedRoot", "I", false)
  | 3 => ("LettersEliminated$Roots", "bitsOfX", "I", false)
  | 4 => ("LettersEliminated$Roots", "bitsOfY", "I", false)
  | 5 => ("LettersEliminated$Roots", "oneAtX", "[I", true)
  | 6 => ("LettersEliminated$Roots", "otherAtX", "[I", true)
  | _ => ("LettersEliminated$Roots", "seed", "I", false)
def tyX7 : Nat → FieldType := fun k => match k with
  | 0 => .int
  | 1 => .int
  | 2 => .int
  | 3 => .int
  | 4 => .int
  | 5 => .array .int
  | 6 => .array .int
  | _ => .int
abbrev wsX70 : List Cond := u_ws RX7 TX7 8
theorem nmX7 : ∀ a, a < 8 → ∀ b, b < 8 → a ≠ b → (TX7 a).2.1 ≠ (TX7 b).2.1 := by decide +kernel
theorem tyX7_ok : ∀ k, k < 8 → parseFieldDescriptor (TX7 k).2.2.1 = some (tyX7 k) := by decide +kernel
def yX7_init : MethodName := ⟨RX7, "<init>", "()V"⟩
def yX7_tryAll : MethodName := ⟨RX7, "tryAll", "(LLettersEliminated$Poly;LLettersEliminated$Poly;II)V"⟩
def yX7_note : MethodName := ⟨RX7, "note", "(III)V"⟩
def yX7_valueOf : MethodName := ⟨RX7, "valueOf", "(LLettersEliminated$Poly;III)I"⟩
def yX7_drawLots : MethodName := ⟨RX7, "drawLots", "(LLettersEliminated$Poly;IIII)I"⟩
def yX7_draw : MethodName := ⟨RX7, "draw", "(I)I"⟩
def RX8 : String := "LettersEliminated$Shelf"
def TX8 : u_T := fun k => match k with
  | 0 => ("LettersEliminated$Shelf", "modulus", "I", false)
  | 1 => ("LettersEliminated$Shelf", "size", "I", false)
  | _ => ("LettersEliminated$Shelf", "polys", "[LLettersEliminated$Poly;", true)
def tyX8 : Nat → FieldType := fun k => match k with
  | 0 => .int
  | 1 => .int
  | _ => .array (.object "LettersEliminated$Poly")
abbrev wsX80 : List Cond := u_ws RX8 TX8 3
theorem nmX8 : ∀ a, a < 3 → ∀ b, b < 3 → a ≠ b → (TX8 a).2.1 ≠ (TX8 b).2.1 := by decide +kernel
theorem tyX8_ok : ∀ k, k < 3 → parseFieldDescriptor (TX8 k).2.2.1 = some (tyX8 k) := by decide +kernel
def yX8_init : MethodName := ⟨RX8, "<init>", "()V"⟩
def yX8_has : MethodName := ⟨RX8, "has", "(I)Z"⟩
def yX8_isFull : MethodName := ⟨RX8, "isFull", "()Z"⟩
def yX8_addPlain : MethodName := ⟨RX8, "addPlain", "()LLettersEliminated$Poly;"⟩
def yX8_reduceBy : MethodName := ⟨RX8, "reduceBy", "(I)V"⟩
def yX8_copyFrom : MethodName := ⟨RX8, "copyFrom", "(LLettersEliminated$Shelf;)V"⟩
def yX8_termsOfAll : MethodName := ⟨RX8, "termsOfAll", "()I"⟩
def yX8_noughtBits : MethodName := ⟨RX8, "noughtBits", "()I"⟩
def RX9 : String := "LettersEliminated$Table"
def TX9 : u_T := fun k => match k with
  | 0 => ("LettersEliminated$Table", "outcome", "[I", true)
  | 1 => ("LettersEliminated$Table", "cells", "[I", true)
  | 2 => ("LettersEliminated$Table", "minors", "[I", true)
  | 3 => ("LettersEliminated$Table", "tops", "[I", true)
  | 4 => ("LettersEliminated$Table", "size", "I", false)
  | 5 => ("LettersEliminated$Table", "span", "I", false)
  | 6 => ("LettersEliminated$Table", "degreeOfOne", "I", false)
  | _ => ("LettersEliminated$Table", "degreeOfOther", "I", false)
def tyX9 : Nat → FieldType := fun k => match k with
  | 0 => .array .int
  | 1 => .array .int
  | 2 => .array .int
  | 3 => .array .int
  | 4 => .int
  | 5 => .int
  | 6 => .int
  | _ => .int
abbrev wsX90 : List Cond := u_ws RX9 TX9 8
theorem nmX9 : ∀ a, a < 8 → ∀ b, b < 8 → a ≠ b → (TX9 a).2.1 ≠ (TX9 b).2.1 := by decide +kernel
theorem tyX9_ok : ∀ k, k < 8 → parseFieldDescriptor (TX9 k).2.2.1 = some (tyX9 k) := by decide +kernel
def yX9_init : MethodName := ⟨RX9, "<init>", "()V"⟩
def yX9_sizeOf : MethodName := ⟨RX9, "sizeOf", "(LLettersEliminated$Poly;LLettersEliminated$Poly;II)I"⟩
def yX9_baseOf : MethodName := ⟨RX9, "baseOf", "(II)I"⟩
def yX9_clear : MethodName := ⟨RX9, "clear", "(II)V"⟩
def yX9_cellPower : MethodName := ⟨RX9, "cellPower", "(III)I"⟩
def yX9_setNumber : MethodName := ⟨RX9, "setNumber", "(III)V"⟩
def yX9_fill : MethodName := ⟨RX9, "fill", "(LLettersEliminated$Poly;LLettersEliminated$Poly;III)V"⟩
def yX9_reduceCell : MethodName := ⟨RX9, "reduceCell", "(II)V"⟩
def yX9_fillSylvester : MethodName := ⟨RX9, "fillSylvester", "(LLettersEliminated$Poly;LLettersEliminated$Poly;III)V"⟩
def yX9_fillBezout : MethodName := ⟨RX9, "fillBezout", "(LLettersEliminated$Poly;LLettersEliminated$Poly;III)V"⟩
def yX9_expand : MethodName := ⟨RX9, "expand", "(I)V"⟩
def yX9_expandSet : MethodName := ⟨RX9, "expandSet", "(II)V"⟩
def yX9_addMultiple : MethodName := ⟨RX9, "addMultiple", "(IIII)V"⟩
def RX10 : String := "LettersEliminated"
def TX10 : u_T := fun k => match k with
  | 0 => ("LettersEliminated", "now", "LLettersEliminated$Shelf;", true)
  | 1 => ("LettersEliminated", "then", "LLettersEliminated$Shelf;", true)
  | 2 => ("LettersEliminated", "reader", "LLettersEliminated$Reader;", true)
  | 3 => ("LettersEliminated", "past", "LLettersEliminated$Past;", true)
  | 4 => ("LettersEliminated", "grid", "LLettersEliminated$Table;", true)
  | 5 => ("LettersEliminated", "chain", "LLettersEliminated$Chain;", true)
  | 6 => ("LettersEliminated", "polygon", "LLettersEliminated$Polygon;", true)
  | 7 => ("LettersEliminated", "roots", "LLettersEliminated$Roots;", true)
  | 8 => ("LettersEliminated", "lists", "LLettersEliminated$Lists;", true)
  | 9 => ("LettersEliminated", "refusals", "[I", true)
  | _ => ("LettersEliminated", "imageTaken", "Z", false)
def tyX10 : Nat → FieldType := fun k => match k with
  | 0 => .object "LettersEliminated$Shelf"
  | 1 => .object "LettersEliminated$Shelf"
  | 2 => .object "LettersEliminated$Reader"
  | 3 => .object "LettersEliminated$Past"
  | 4 => .object "LettersEliminated$Table"
  | 5 => .object "LettersEliminated$Chain"
  | 6 => .object "LettersEliminated$Polygon"
  | 7 => .object "LettersEliminated$Roots"
  | 8 => .object "LettersEliminated$Lists"
  | 9 => .array .int
  | _ => .boolean
abbrev wsX100 : List Cond := u_ws RX10 TX10 11
theorem nmX10 : ∀ a, a < 11 → ∀ b, b < 11 → a ≠ b → (TX10 a).2.1 ≠ (TX10 b).2.1 := by decide +kernel
theorem tyX10_ok : ∀ k, k < 11 → parseFieldDescriptor (TX10 k).2.2.1 = some (tyX10 k) := by decide +kernel
def yX10_init : MethodName := ⟨RX10, "<init>", "()V"⟩
def yX10_letter : MethodName := ⟨RX10, "letter", "(I)I"⟩
def yX10_poly : MethodName := ⟨RX10, "poly", "()I"⟩
def yX10_drop : MethodName := ⟨RX10, "drop", "()I"⟩
def yX10_prime : MethodName := ⟨RX10, "prime", "(I)I"⟩
def yX10_turn : MethodName := ⟨RX10, "turn", "(III)I"⟩
def yX10_change : MethodName := ⟨RX10, "change", "(IIII)I"⟩
def yX10_coefficient : MethodName := ⟨RX10, "coefficient", "(III)I"⟩
def yX10_of : MethodName := ⟨RX10, "of", "(II)I"⟩
def yX10_term : MethodName := ⟨RX10, "term", "(III)I"⟩
def yX10_value : MethodName := ⟨RX10, "value", "(III)I"⟩
def yX10_rows : MethodName := ⟨RX10, "rows", "(IIII)I"⟩
def yX10_entry : MethodName := ⟨RX10, "entry", "(IIIIIII)I"⟩
def yX10_result : MethodName := ⟨RX10, "result", "(IIIII)I"⟩
def yX10_degree : MethodName := ⟨RX10, "degree", "(IIII)I"⟩
def yX10_at : MethodName := ⟨RX10, "at", "(IIIII)I"⟩
def yX10_remainder : MethodName := ⟨RX10, "remainder", "(IIIII)I"⟩
def yX10_common : MethodName := ⟨RX10, "common", "(IIII)I"⟩
def yX10_norm : MethodName := ⟨RX10, "norm", "(IIII)I"⟩
def yX10_extra : MethodName := ⟨RX10, "extra", "(III)I"⟩
def yX10_zeros : MethodName := ⟨RX10, "zeros", "(III)I"⟩
def yX10_lifted : MethodName := ⟨RX10, "lifted", "(III)I"⟩
def yX10_root : MethodName := ⟨RX10, "root", "(III)I"⟩
def yX10_without : MethodName := ⟨RX10, "without", "(II)I"⟩
def yX10_corner : MethodName := ⟨RX10, "corner", "(II)I"⟩
def yX10_area : MethodName := ⟨RX10, "area", "(I)I"⟩
def yX10_sum : MethodName := ⟨RX10, "sum", "(III)I"⟩
def yX10_mixed : MethodName := ⟨RX10, "mixed", "(II)I"⟩
def yX10_product : MethodName := ⟨RX10, "product", "(II)I"⟩
def yX10_odds : MethodName := ⟨RX10, "odds", "(II)J"⟩
def yX10_lots : MethodName := ⟨RX10, "lots", "(IIII)I"⟩
def yX10_list : MethodName := ⟨RX10, "list", "(II)I"⟩
def yX10_put : MethodName := ⟨RX10, "put", "(III)I"⟩
def yX10_look : MethodName := ⟨RX10, "look", "(II)J"⟩
def yX10_lays : MethodName := ⟨RX10, "lays", "(IIIIII)I"⟩
def yX10_judge : MethodName := ⟨RX10, "judge", "(IIIII)I"⟩
def yX10_undo : MethodName := ⟨RX10, "undo", "()I"⟩
def yX10_image : MethodName := ⟨RX10, "image", "()I"⟩
def yX10_on : MethodName := ⟨RX10, "on", "()I"⟩
def yX10_count : MethodName := ⟨RX10, "count", "(I)I"⟩
def yX10_refuse : MethodName := ⟨RX10, "refuse", "(I)I"⟩
def yX10_refuseLong : MethodName := ⟨RX10, "refuseLong", "(I)J"⟩
def yX10_isLetter : MethodName := ⟨RX10, "isLetter", "(I)Z"⟩
def yX10_powersRefusal : MethodName := ⟨RX10, "powersRefusal", "(III)I"⟩
def yX10_tableRefusal : MethodName := ⟨RX10, "tableRefusal", "(IIII)I"⟩
def yX10_numberRefusal : MethodName := ⟨RX10, "numberRefusal", "(I)I"⟩
def yX10_atRefusal : MethodName := ⟨RX10, "atRefusal", "(IIII)I"⟩
def yX10_polygonRefusal : MethodName := ⟨RX10, "polygonRefusal", "(II)I"⟩
def yX10_placeRefusal : MethodName := ⟨RX10, "placeRefusal", "(II)I"⟩
def yX10_solve : MethodName := ⟨RX10, "solve", "(IIII)V"⟩
def yX10_divideAt : MethodName := ⟨RX10, "divideAt", "(IIII)V"⟩
def yX10_tryAll : MethodName := ⟨RX10, "tryAll", "(III)V"⟩
def RX11 : String := "LettersEliminatedModel"
def TX11 : u_T := fun k => match k with
  | 0 => ("LettersEliminatedModel", "refusals", "[I", true)
  | 1 => ("LettersEliminatedModel", "prime", "I", false)
  | 2 => ("LettersEliminatedModel", "told", "[I", true)
  | 3 => ("LettersEliminatedModel", "kinds", "[I", true)
  | 4 => ("LettersEliminatedModel", "figures", "[I", true)
  | 5 => ("LettersEliminatedModel", "polys", "I", false)
  | 6 => ("LettersEliminatedModel", "undoWhere", "[I", true)
  | 7 => ("LettersEliminatedModel", "undoWas", "[I", true)
  | 8 => ("LettersEliminatedModel", "undos", "I", false)
  | 9 => ("LettersEliminatedModel", "tape", "[I", true)
  | 10 => ("LettersEliminatedModel", "read", "[I", true)
  | 11 => ("LettersEliminatedModel", "taped", "I", false)
  | 12 => ("LettersEliminatedModel", "at", "I", false)
  | 13 => ("LettersEliminatedModel", "one", "[I", true)
  | 14 => ("LettersEliminatedModel", "two", "[I", true)
  | 15 => ("LettersEliminatedModel", "oneDeep", "I", false)
  | 16 => ("LettersEliminatedModel", "twoDeep", "I", false)
  | 17 => ("LettersEliminatedModel", "table", "[I", true)
  | 18 => ("LettersEliminatedModel", "size", "I", false)
  | 19 => ("LettersEliminatedModel", "minors", "[I", true)
  | 20 => ("LettersEliminatedModel", "result", "[I", true)
  | 21 => ("LettersEliminatedModel", "last", "[I", true)
  | 22 => ("LettersEliminatedModel", "now", "[I", true)
  | 23 => ("LettersEliminatedModel", "left", "[I", true)
  | 24 => ("LettersEliminatedModel", "lastDeep", "I", false)
  | 25 => ("LettersEliminatedModel", "nowDeep", "I", false)
  | 26 => ("LettersEliminatedModel", "points", "[Z", true)
  | 27 => ("LettersEliminatedModel", "corners", "[I", true)
  | 28 => ("LettersEliminatedModel", "corner", "I", false)
  | 29 => ("LettersEliminatedModel", "lot", "I", false)
  | 30 => ("LettersEliminatedModel", "sizes", "[I", true)
  | 31 => ("LettersEliminatedModel", "items", "[I", true)
  | 32 => ("LettersEliminatedModel", "kept", "[I", true)
  | 33 => ("LettersEliminatedModel", "cursor", "I", false)
  | 34 => ("LettersEliminatedModel", "imaged", "I", false)
  | _ => ("LettersEliminatedModel", "isKeeping", "Z", false)
def tyX11 : Nat → FieldType := fun k => match k with
  | 0 => .array .int
  | 1 => .int
  | 2 => .array .int
  | 3 => .array .int
  | 4 => .array .int
  | 5 => .int
  | 6 => .array .int
  | 7 => .array .int
  | 8 => .int
  | 9 => .array .int
  | 10 => .array .int
  | 11 => .int
  | 12 => .int
  | 13 => .array .int
  | 14 => .array .int
  | 15 => .int
  | 16 => .int
  | 17 => .array .int
  | 18 => .int
  | 19 => .array .int
  | 20 => .array .int
  | 21 => .array .int
  | 22 => .array .int
  | 23 => .array .int
  | 24 => .int
  | 25 => .int
  | 26 => .array .boolean
  | 27 => .array .int
  | 28 => .int
  | 29 => .int
  | 30 => .array .int
  | 31 => .array .int
  | 32 => .array .int
  | 33 => .int
  | 34 => .int
  | _ => .boolean
abbrev wsX110 : List Cond := u_ws RX11 TX11 36
theorem nmX11 : ∀ a, a < 36 → ∀ b, b < 36 → a ≠ b → (TX11 a).2.1 ≠ (TX11 b).2.1 := by decide +kernel
theorem tyX11_ok : ∀ k, k < 36 → parseFieldDescriptor (TX11 k).2.2.1 = some (tyX11 k) := by decide +kernel
def yX11_no : MethodName := ⟨RX11, "no", "(I)I"⟩
def yX11_lowest : MethodName := ⟨RX11, "lowest", "(I)J"⟩
def yX11_isIn : MethodName := ⟨RX11, "isIn", "(III)Z"⟩
def yX11_rest : MethodName := ⟨RX11, "rest", "(I)I"⟩
def yX11_power : MethodName := ⟨RX11, "power", "(II)I"⟩
def yX11_inverse : MethodName := ⟨RX11, "inverse", "(I)I"⟩
def yX11_isPrime : MethodName := ⟨RX11, "isPrime", "(I)Z"⟩
def yX11_init : MethodName := ⟨RX11, "<init>", "()V"⟩
def yX11_isPoly : MethodName := ⟨RX11, "isPoly", "(I)Z"⟩
def yX11_toldOf : MethodName := ⟨RX11, "toldOf", "(III)I"⟩
def yX11_evenOf : MethodName := ⟨RX11, "evenOf", "(III)I"⟩
def yX11_shiftedOf : MethodName := ⟨RX11, "shiftedOf", "(III)I"⟩
def yX11_coefficientOf : MethodName := ⟨RX11, "coefficientOf", "(III)I"⟩
def yX11_isTerm : MethodName := ⟨RX11, "isTerm", "(III)Z"⟩
def yX11_degreeOf : MethodName := ⟨RX11, "degreeOf", "(II)I"⟩
def yX11_isNought : MethodName := ⟨RX11, "isNought", "(I)Z"⟩
def yX11_termsOf : MethodName := ⟨RX11, "termsOf", "(I)I"⟩
def yX11_valueAt : MethodName := ⟨RX11, "valueAt", "(III)I"⟩
def yX11_notes : MethodName := ⟨RX11, "notes", "(II)V"⟩
def yX11_undo : MethodName := ⟨RX11, "undo", "()I"⟩
def yX11_letter : MethodName := ⟨RX11, "letter", "(I)I"⟩
def yX11_next : MethodName := ⟨RX11, "next", "()I"⟩
def yX11_isDigit : MethodName := ⟨RX11, "isDigit", "()Z"⟩
def yX11_readsPower : MethodName := ⟨RX11, "readsPower", "()I"⟩
def yX11_readsTerm : MethodName := ⟨RX11, "readsTerm", "(Z)Z"⟩
def yX11_readsAll : MethodName := ⟨RX11, "readsAll", "()Z"⟩
def yX11_comes : MethodName := ⟨RX11, "comes", "()I"⟩
def yX11_poly : MethodName := ⟨RX11, "poly", "()I"⟩
def yX11_drop : MethodName := ⟨RX11, "drop", "()I"⟩
def yX11_prime : MethodName := ⟨RX11, "prime", "(I)I"⟩
def yX11_turn : MethodName := ⟨RX11, "turn", "(III)I"⟩
def yX11_notPowers : MethodName := ⟨RX11, "notPowers", "(III)I"⟩
def yX11_change : MethodName := ⟨RX11, "change", "(IIII)I"⟩
def yX11_coefficient : MethodName := ⟨RX11, "coefficient", "(III)I"⟩
def yX11_of : MethodName := ⟨RX11, "of", "(II)I"⟩
def yX11_term : MethodName := ⟨RX11, "term", "(III)I"⟩
def yX11_value : MethodName := ⟨RX11, "value", "(III)I"⟩
def yX11_notTwo : MethodName := ⟨RX11, "notTwo", "(III)I"⟩
def yX11_notTable : MethodName := ⟨RX11, "notTable", "(IIII)I"⟩
def yX11_notBoth : MethodName := ⟨RX11, "notBoth", "(III)I"⟩
def yX11_takes : MethodName := ⟨RX11, "takes", "(III)V"⟩
def yX11_oneAt : MethodName := ⟨RX11, "oneAt", "(II)I"⟩
def yX11_twoAt : MethodName := ⟨RX11, "twoAt", "(II)I"⟩
def yX11_fillsSylvester : MethodName := ⟨RX11, "fillsSylvester", "()V"⟩
def yX11_productAt : MethodName := ⟨RX11, "productAt", "(III)I"⟩
def yX11_bezoutAt : MethodName := ⟨RX11, "bezoutAt", "(III)I"⟩
def yX11_fillsBezout : MethodName := ⟨RX11, "fillsBezout", "()V"⟩
def yX11_fills : MethodName := ⟨RX11, "fills", "(IIII)V"⟩
def yX11_bits : MethodName := ⟨RX11, "bits", "(I)I"⟩
def yX11_addsColumn : MethodName := ⟨RX11, "addsColumn", "(II)V"⟩
def yX11_determinant : MethodName := ⟨RX11, "determinant", "()I"⟩
def yX11_results : MethodName := ⟨RX11, "results", "(IIII)V"⟩
def yX11_resultAt : MethodName := ⟨RX11, "resultAt", "(I)I"⟩
def yX11_rows : MethodName := ⟨RX11, "rows", "(IIII)I"⟩
def yX11_entry : MethodName := ⟨RX11, "entry", "(IIIIIII)I"⟩
def yX11_result : MethodName := ⟨RX11, "result", "(IIIII)I"⟩
def yX11_degree : MethodName := ⟨RX11, "degree", "(IIII)I"⟩
def yX11_at : MethodName := ⟨RX11, "at", "(IIIII)I"⟩
def yX11_deepOf : MethodName := ⟨RX11, "deepOf", "([II)I"⟩
def yX11_standsAt : MethodName := ⟨RX11, "standsAt", "(I)V"⟩
def yX11_divides : MethodName := ⟨RX11, "divides", "([II)V"⟩
def yX11_takesLeft : MethodName := ⟨RX11, "takesLeft", "([I)V"⟩
def yX11_remains : MethodName := ⟨RX11, "remains", "(I)I"⟩
def yX11_notAt : MethodName := ⟨RX11, "notAt", "(IIII)I"⟩
def yX11_remainder : MethodName := ⟨RX11, "remainder", "(IIIII)I"⟩
def yX11_common : MethodName := ⟨RX11, "common", "(IIII)I"⟩
def yX11_norm : MethodName := ⟨RX11, "norm", "(IIII)I"⟩
def yX11_extra : MethodName := ⟨RX11, "extra", "(III)I"⟩
def yX11_zeros : MethodName := ⟨RX11, "zeros", "(III)I"⟩
def yX11_isRoot : MethodName := ⟨RX11, "isRoot", "(IIII)Z"⟩
def yX11_lifted : MethodName := ⟨RX11, "lifted", "(III)I"⟩
def yX11_root : MethodName := ⟨RX11, "root", "(III)I"⟩
def yX11_without : MethodName := ⟨RX11, "without", "(II)I"⟩
def yX11_clears : MethodName := ⟨RX11, "clears", "()V"⟩
def yX11_turns : MethodName := ⟨RX11, "turns", "(III)I"⟩
def yX11_far : MethodName := ⟨RX11, "far", "(II)I"⟩
def yX11_behind : MethodName := ⟨RX11, "behind", "(I)I"⟩
def yX11_wraps : MethodName := ⟨RX11, "wraps", "()V"⟩
def yX11_wrapsOne : MethodName := ⟨RX11, "wrapsOne", "(I)V"⟩
def yX11_wrapsSum : MethodName := ⟨RX11, "wrapsSum", "(II)V"⟩
def yX11_areaNow : MethodName := ⟨RX11, "areaNow", "()I"⟩
def yX11_cornerAt : MethodName := ⟨RX11, "cornerAt", "(I)I"⟩
def yX11_corner : MethodName := ⟨RX11, "corner", "(II)I"⟩
def yX11_areaOf : MethodName := ⟨RX11, "areaOf", "(I)I"⟩
def yX11_area : MethodName := ⟨RX11, "area", "(I)I"⟩
def yX11_sum : MethodName := ⟨RX11, "sum", "(III)I"⟩
def yX11_mixed : MethodName := ⟨RX11, "mixed", "(II)I"⟩
def yX11_multiplies : MethodName := ⟨RX11, "multiplies", "(II)Z"⟩
def yX11_product : MethodName := ⟨RX11, "product", "(II)I"⟩
def yX11_divisor : MethodName := ⟨RX11, "divisor", "(JJ)J"⟩
def yX11_odds : MethodName := ⟨RX11, "odds", "(II)J"⟩
def yX11_draw : MethodName := ⟨RX11, "draw", "(I)I"⟩
def yX11_lots : MethodName := ⟨RX11, "lots", "(IIII)I"⟩
def yX11_isList : MethodName := ⟨RX11, "isList", "(I)Z"⟩
def yX11_list : MethodName := ⟨RX11, "list", "(II)I"⟩
def yX11_notPlace : MethodName := ⟨RX11, "notPlace", "(II)I"⟩
def yX11_put : MethodName := ⟨RX11, "put", "(III)I"⟩
def yX11_look : MethodName := ⟨RX11, "look", "(II)J"⟩
def yX11_notListed : MethodName := ⟨RX11, "notListed", "(IIIII)I"⟩
def yX11_lays : MethodName := ⟨RX11, "lays", "(IIIIII)I"⟩
def yX11_judge : MethodName := ⟨RX11, "judge", "(IIIII)I"⟩
def yX11_passOne : MethodName := ⟨RX11, "passOne", "(I)I"⟩
def yX11_passesAll : MethodName := ⟨RX11, "passesAll", "(Z)V"⟩
def yX11_image : MethodName := ⟨RX11, "image", "()I"⟩
def yX11_on : MethodName := ⟨RX11, "on", "()I"⟩
def yX11_count : MethodName := ⟨RX11, "count", "(I)I"⟩
def RJ6 : String := "java/lang/Integer"
def TJ6 : u_T := fun k => match k with
  | _ => ("", "", "", false)
def tyJ6 : Nat → FieldType := fun k => match k with
  | _ => .int
abbrev wsJ60 : List Cond := u_ws RJ6 TJ6 0
theorem nmJ6 : ∀ a, a < 0 → ∀ b, b < 0 → a ≠ b → (TJ6 a).2.1 ≠ (TJ6 b).2.1 := by decide +kernel
theorem tyJ6_ok : ∀ k, k < 0 → parseFieldDescriptor (TJ6 k).2.2.1 = some (tyJ6 k) := by decide +kernel
def yJ6_bitCount_0f7a4 : MethodName := ⟨RJ6, "bitCount", "(I)I"⟩
def RJ9 : String := "java/lang/Math"
def TJ9 : u_T := fun k => match k with
  | _ => ("", "", "", false)
def tyJ9 : Nat → FieldType := fun k => match k with
  | _ => .int
abbrev wsJ90 : List Cond := u_ws RJ9 TJ9 0
theorem nmJ9 : ∀ a, a < 0 → ∀ b, b < 0 → a ≠ b → (TJ9 a).2.1 ≠ (TJ9 b).2.1 := by decide +kernel
theorem tyJ9_ok : ∀ k, k < 0 → parseFieldDescriptor (TJ9 k).2.2.1 = some (tyJ9 k) := by decide +kernel
def yJ9_floorMod_7cf53 : MethodName := ⟨RJ9, "floorMod", "(II)I"⟩
def yJ9_max_7cf53 : MethodName := ⟨RJ9, "max", "(II)I"⟩
def yJ9_min_7cf53 : MethodName := ⟨RJ9, "min", "(II)I"⟩
def RJ10 : String := "java/lang/System"
def TJ10 : u_T := fun k => match k with
  | _ => ("", "", "", false)
def tyJ10 : Nat → FieldType := fun k => match k with
  | _ => .int
abbrev wsJ100 : List Cond := u_ws RJ10 TJ10 0
theorem nmJ10 : ∀ a, a < 0 → ∀ b, b < 0 → a ≠ b → (TJ10 a).2.1 ≠ (TJ10 b).2.1 := by decide +kernel
theorem tyJ10_ok : ∀ k, k < 0 → parseFieldDescriptor (TJ10 k).2.2.1 = some (tyJ10 k) := by decide +kernel
def RJ7 : String := "java/util/Arrays"
def TJ7 : u_T := fun k => match k with
  | _ => ("", "", "", false)
def tyJ7 : Nat → FieldType := fun k => match k with
  | _ => .int
abbrev wsJ70 : List Cond := u_ws RJ7 TJ7 0
theorem nmJ7 : ∀ a, a < 0 → ∀ b, b < 0 → a ≠ b → (TJ7 a).2.1 ≠ (TJ7 b).2.1 := by decide +kernel
theorem tyJ7_ok : ∀ k, k < 0 → parseFieldDescriptor (TJ7 k).2.2.1 = some (tyJ7 k) := by decide +kernel
def yJ7_fill_53178 : MethodName := ⟨RJ7, "fill", "([II)V"⟩
def RL : String := "LettersEliminatedLaw"
def yL_law : MethodName := ⟨RL, "law", "([I)Z"⟩
abbrev vwCl : List vw_C := [(RX0, TX0, 4), (RX1, TX1, 2), (RX3, TX3, 4), (RX4, TX4, 4), (RX5, TX5, 3), (RX6, TX6, 7), (RX7, TX7, 8), (RX8, TX8, 3), (RX9, TX9, 8), (RX10, TX10, 11), (RX11, TX11, 36)]
abbrev zMM : Type := MethodName × ByteArray × Nat × Option FieldType × (Nat × Nat) × (Nat × Nat)
abbrev zy (M : zMM) : MethodName := M.1
abbrev zc (M : zMM) : ByteArray := M.2.1
abbrev zn (M : zMM) : Nat := M.2.2.1
abbrev zr (M : zMM) : Option FieldType := M.2.2.2.1
abbrev zF (M : zMM) : Nat := M.2.2.2.2.1.1
abbrev zL (M : zMM) : Nat := M.2.2.2.2.1.2
abbrev zmc (M : zMM) : Nat := M.2.2.2.2.2.1
abbrev zms (M : zMM) : Nat := M.2.2.2.2.2.2
def mm_X0_init : zMM := (yX0_init, prog_2_method_1_code, 1, none, (1, 20), (3, 18))
def mm_X0_divideOn : zMM := (yX0_divideOn, prog_2_method_2_code, 6, none, (2, 50), (0, 0))
def mm_X0_note : zMM := (yX0_note, prog_2_method_3_code, 2, none, (0, 0), (0, 0))
def mm_X0_divide : zMM := (yX0_divide, prog_2_method_4_code, 9, none, (1, 22), (0, 0))
def mm_X0_linkDegree : zMM := (yX0_linkDegree, prog_2_method_5_code, 2, (some .int), (0, 0), (0, 0))
def mm_X0_lastDegree : zMM := (yX0_lastDegree, prog_2_method_6_code, 1, (some .int), (1, 21), (0, 0))
def mm_X0_layMultiples : zMM := (yX0_layMultiples, prog_2_method_7_code, 6, none, (2, 50), (0, 0))
def mm_X0_raise : zMM := (yX0_raise, prog_2_method_8_code, 2, none, (0, 0), (0, 0))
def mm_X1_init : zMM := (yX1_init, prog_3_method_1_code, 1, none, (1, 20), (2, 123))
def mm_X1_has : zMM := (yX1_has, prog_3_method_2_code, 2, (some .boolean), (0, 0), (0, 0))
def mm_X1_isMissing : zMM := (yX1_isMissing, prog_3_method_3_code, 2, (some .boolean), (0, 0), (0, 0))
def mm_X1_hasPlace : zMM := (yX1_hasPlace, prog_3_method_4_code, 3, (some .boolean), (0, 0), (0, 0))
def mm_X1_make : zMM := (yX1_make, prog_3_method_5_code, 4, none, (1, 23), (0, 0))
def mm_X1_write : zMM := (yX1_write, prog_3_method_6_code, 4, none, (0, 0), (0, 0))
def mm_X1_readAt : zMM := (yX1_readAt, prog_3_method_7_code, 3, (some .int), (0, 0), (0, 0))
def mm_X1_lay : zMM := (yX1_lay, prog_3_method_8_code, 6, (some .int), (1, 23), (0, 0))
def mm_X1_firstUnlike : zMM := (yX1_firstUnlike, prog_3_method_9_code, 6, (some .int), (1, 22), (0, 0))
def mm_X2_isPrime : zMM := (yX2_isPrime, prog_4_method_2_code, 5, (some .boolean), (0, 0), (0, 0))
def mm_X2_power : zMM := (yX2_power, prog_4_method_3_code, 5, (some .int), (0, 0), (0, 0))
def mm_X2_inverse : zMM := (yX2_inverse, prog_4_method_4_code, 3, (some .int), (0, 0), (0, 0))
def mm_X2_degreeOf : zMM := (yX2_degreeOf, prog_4_method_5_code, 2, (some .int), (0, 0), (0, 0))
def mm_X2_valueAt : zMM := (yX2_valueAt, prog_4_method_6_code, 5, (some .int), (0, 0), (0, 0))
def mm_X2_commonDivisor : zMM := (yX2_commonDivisor, prog_4_method_7_code, 6, (some .int), (0, 0), (0, 0))
def mm_X3_init : zMM := (yX3_init, prog_5_method_1_code, 1, none, (1, 20), (3, 48))
def mm_X3_forget : zMM := (yX3_forget, prog_5_method_2_code, 1, none, (0, 0), (0, 0))
def mm_X3_note : zMM := (yX3_note, prog_5_method_3_code, 4, none, (2, 80), (0, 0))
def mm_X3_forgetOldest : zMM := (yX3_forgetOldest, prog_5_method_4_code, 1, none, (1, 60), (0, 0))
def mm_X3_takeBack : zMM := (yX3_takeBack, prog_5_method_5_code, 3, none, (4, 93), (0, 0))
def mm_X4_init : zMM := (yX4_init, prog_6_method_1_code, 1, none, (1, 20), (2, 50))
def mm_X4_copyFrom : zMM := (yX4_copyFrom, prog_6_method_2_code, 2, none, (1, 60), (0, 0))
def mm_X4_clear : zMM := (yX4_clear, prog_6_method_3_code, 1, none, (1, 23), (0, 0))
def mm_X4_become : zMM := (yX4_become, prog_6_method_4_code, 4, none, (3, 70), (0, 0))
def mm_X4_tell : zMM := (yX4_tell, prog_6_method_5_code, 4, none, (3, 70), (0, 0))
def mm_X4_reduceBy : zMM := (yX4_reduceBy, prog_6_method_6_code, 3, none, (3, 70), (0, 0))
def mm_X4_refresh : zMM := (yX4_refresh, prog_6_method_7_code, 4, none, (2, 47), (0, 0))
def mm_X4_byKind : zMM := (yX4_byKind, prog_6_method_8_code, 4, (some .int), (1, 24), (0, 0))
def mm_X4_even : zMM := (yX4_even, prog_6_method_9_code, 3, (some .int), (0, 0), (0, 0))
def mm_X4_shift : zMM := (yX4_shift, prog_6_method_10_code, 6, none, (0, 0), (0, 0))
def mm_X4_hasTerm : zMM := (yX4_hasTerm, prog_6_method_11_code, 3, (some .boolean), (0, 0), (0, 0))
def mm_X4_isNought : zMM := (yX4_isNought, prog_6_method_12_code, 1, (some .boolean), (1, 25), (0, 0))
def mm_X4_howManyTerms : zMM := (yX4_howManyTerms, prog_6_method_13_code, 6, (some .int), (0, 0), (0, 0))
def mm_X4_degreeIn : zMM := (yX4_degreeIn, prog_6_method_14_code, 5, (some .int), (1, 22), (0, 0))
def mm_X4_wholeDegree : zMM := (yX4_wholeDegree, prog_6_method_15_code, 4, (some .int), (1, 22), (0, 0))
def mm_X4_termByLetter : zMM := (yX4_termByLetter, prog_6_method_16_code, 5, (some .int), (1, 22), (0, 0))
def mm_X4_termByWhole : zMM := (yX4_termByWhole, prog_6_method_17_code, 5, (some .int), (1, 22), (0, 0))
def mm_X4_part : zMM := (yX4_part, prog_6_method_18_code, 4, (some .int), (0, 0), (0, 0))
def mm_X4_reduceAt : zMM := (yX4_reduceAt, prog_6_method_19_code, 8, none, (1, 23), (0, 0))
def mm_X4_leadingPart : zMM := (yX4_leadingPart, prog_6_method_20_code, 5, none, (2, 46), (0, 0))
def mm_X4_multipliesWith : zMM := (yX4_multipliesWith, prog_6_method_21_code, 2, (some .boolean), (2, 46), (0, 0))
def mm_X4_multiply : zMM := (yX4_multiply, prog_6_method_22_code, 6, none, (4, 92), (0, 0))
def mm_X4_addMultiple : zMM := (yX4_addMultiple, prog_6_method_23_code, 7, none, (0, 0), (0, 0))
def mm_X5_init : zMM := (yX5_init, prog_7_method_1_code, 1, none, (1, 20), (2, 243))
def mm_X5_ofOne : zMM := (yX5_ofOne, prog_7_method_2_code, 2, none, (3, 69), (0, 0))
def mm_X5_ofTwo : zMM := (yX5_ofTwo, prog_7_method_3_code, 5, none, (3, 69), (0, 0))
def mm_X5_markMoved : zMM := (yX5_markMoved, prog_7_method_4_code, 6, none, (1, 22), (0, 0))
def mm_X5_wrap : zMM := (yX5_wrap, prog_7_method_5_code, 4, none, (2, 46), (0, 0))
def mm_X5_goOn : zMM := (yX5_goOn, prog_7_method_6_code, 3, none, (1, 24), (0, 0))
def mm_X5_turning : zMM := (yX5_turning, prog_7_method_7_code, 5, (some .int), (0, 0), (0, 0))
def mm_X5_cornerCode : zMM := (yX5_cornerCode, prog_7_method_8_code, 2, (some .int), (0, 0), (0, 0))
def mm_X5_twiceCovered : zMM := (yX5_twiceCovered, prog_7_method_9_code, 3, (some .int), (1, 24), (0, 0))
def mm_X6_init : zMM := (yX6_init, prog_8_method_1_code, 1, none, (1, 20), (2, 97))
def mm_X6_isFull : zMM := (yX6_isFull, prog_8_method_2_code, 1, (some .boolean), (0, 0), (0, 0))
def mm_X6_take : zMM := (yX6_take, prog_8_method_3_code, 2, (some .int), (0, 0), (0, 0))
def mm_X6_forget : zMM := (yX6_forget, prog_8_method_4_code, 1, none, (0, 0), (0, 0))
def mm_X6_read : zMM := (yX6_read, prog_8_method_5_code, 4, (some .int), (3, 63), (0, 0))
def mm_X6_next : zMM := (yX6_next, prog_8_method_6_code, 1, (some .int), (0, 0), (0, 0))
def mm_X6_readTerm : zMM := (yX6_readTerm, prog_8_method_7_code, 2, (some .boolean), (2, 42), (0, 0))
def mm_X6_readNumber : zMM := (yX6_readNumber, prog_8_method_8_code, 2, none, (1, 20), (0, 0))
def mm_X6_readPower : zMM := (yX6_readPower, prog_8_method_9_code, 3, (some .int), (1, 20), (0, 0))
def mm_X7_init : zMM := (yX7_init, prog_9_method_1_code, 1, none, (1, 20), (2, 10))
def mm_X7_tryAll : zMM := (yX7_tryAll, prog_9_method_2_code, 7, none, (2, 50), (0, 0))
def mm_X7_note : zMM := (yX7_note, prog_9_method_3_code, 4, none, (0, 0), (0, 0))
def mm_X7_valueOf : zMM := (yX7_valueOf, prog_9_method_4_code, 5, (some .int), (2, 50), (0, 0))
def mm_X7_drawLots : zMM := (yX7_drawLots, prog_9_method_5_code, 12, (some .int), (3, 74), (0, 0))
def mm_X7_draw : zMM := (yX7_draw, prog_9_method_6_code, 2, (some .int), (0, 0), (0, 0))
def mm_X8_init : zMM := (yX8_init, prog_10_method_1_code, 2, none, (2, 40), (19, 330))
def mm_X8_has : zMM := (yX8_has, prog_10_method_2_code, 2, (some .boolean), (0, 0), (0, 0))
def mm_X8_isFull : zMM := (yX8_isFull, prog_10_method_3_code, 1, (some .boolean), (0, 0), (0, 0))
def mm_X8_addPlain : zMM := (yX8_addPlain, prog_10_method_4_code, 2, (some (.object "LettersEliminated$Poly")), (2, 43), (0, 0))
def mm_X8_reduceBy : zMM := (yX8_reduceBy, prog_10_method_5_code, 3, none, (4, 92), (0, 0))
def mm_X8_copyFrom : zMM := (yX8_copyFrom, prog_10_method_6_code, 3, none, (2, 81), (0, 0))
def mm_X8_termsOfAll : zMM := (yX8_termsOfAll, prog_10_method_7_code, 3, (some .int), (1, 25), (0, 0))
def mm_X8_noughtBits : zMM := (yX8_noughtBits, prog_10_method_8_code, 3, (some .int), (2, 45), (0, 0))
def mm_X9_init : zMM := (yX9_init, prog_11_method_1_code, 1, none, (1, 20), (4, 9321))
def mm_X9_sizeOf : zMM := (yX9_sizeOf, prog_11_method_2_code, 6, (some .int), (2, 46), (0, 0))
def mm_X9_baseOf : zMM := (yX9_baseOf, prog_11_method_3_code, 2, (some .int), (0, 0), (0, 0))
def mm_X9_clear : zMM := (yX9_clear, prog_11_method_4_code, 3, none, (1, 23), (0, 0))
def mm_X9_cellPower : zMM := (yX9_cellPower, prog_11_method_5_code, 4, (some .int), (1, 21), (0, 0))
def mm_X9_setNumber : zMM := (yX9_setNumber, prog_11_method_6_code, 4, none, (1, 21), (0, 0))
def mm_X9_fill : zMM := (yX9_fill, prog_11_method_7_code, 8, none, (3, 71), (0, 0))
def mm_X9_reduceCell : zMM := (yX9_reduceCell, prog_11_method_8_code, 4, none, (1, 22), (0, 0))
def mm_X9_fillSylvester : zMM := (yX9_fillSylvester, prog_11_method_9_code, 8, none, (1, 23), (0, 0))
def mm_X9_fillBezout : zMM := (yX9_fillBezout, prog_11_method_10_code, 11, none, (1, 23), (0, 0))
def mm_X9_expand : zMM := (yX9_expand, prog_11_method_11_code, 4, none, (2, 57), (0, 0))
def mm_X9_expandSet : zMM := (yX9_expandSet, prog_11_method_12_code, 9, none, (1, 29), (0, 0))
def mm_X9_addMultiple : zMM := (yX9_addMultiple, prog_11_method_13_code, 10, none, (0, 0), (0, 0))
def mm_X10_init : zMM := (yX10_init, prog_1_method_1_code, 1, none, (3, 61), (66, 10569))
def mm_X10_letter : zMM := (yX10_letter, prog_1_method_2_code, 2, (some .int), (1, 22), (0, 0))
def mm_X10_poly : zMM := (yX10_poly, prog_1_method_3_code, 3, (some .int), (4, 92), (0, 0))
def mm_X10_drop : zMM := (yX10_drop, prog_1_method_4_code, 1, (some .int), (1, 22), (0, 0))
def mm_X10_prime : zMM := (yX10_prime, prog_1_method_5_code, 3, (some .int), (5, 114), (0, 0))
def mm_X10_turn : zMM := (yX10_turn, prog_1_method_6_code, 6, (some .int), (4, 103), (0, 0))
def mm_X10_change : zMM := (yX10_change, prog_1_method_7_code, 9, (some .int), (4, 103), (0, 0))
def mm_X10_coefficient : zMM := (yX10_coefficient, prog_1_method_8_code, 5, (some .int), (2, 44), (0, 0))
def mm_X10_of : zMM := (yX10_of, prog_1_method_9_code, 4, (some .int), (2, 46), (0, 0))
def mm_X10_term : zMM := (yX10_term, prog_1_method_10_code, 5, (some .int), (2, 46), (0, 0))
def mm_X10_value : zMM := (yX10_value, prog_1_method_11_code, 4, (some .int), (3, 74), (0, 0))
def mm_X10_rows : zMM := (yX10_rows, prog_1_method_12_code, 6, (some .int), (3, 71), (0, 0))
def mm_X10_entry : zMM := (yX10_entry, prog_1_method_13_code, 10, (some .int), (4, 98), (0, 0))
def mm_X10_result : zMM := (yX10_result, prog_1_method_14_code, 7, (some .int), (5, 122), (0, 0))
def mm_X10_degree : zMM := (yX10_degree, prog_1_method_15_code, 6, (some .int), (5, 122), (0, 0))
def mm_X10_at : zMM := (yX10_at, prog_1_method_16_code, 7, (some .int), (5, 122), (0, 0))
def mm_X10_remainder : zMM := (yX10_remainder, prog_1_method_17_code, 7, (some .int), (4, 99), (0, 0))
def mm_X10_common : zMM := (yX10_common, prog_1_method_18_code, 6, (some .int), (4, 99), (0, 0))
def mm_X10_norm : zMM := (yX10_norm, prog_1_method_19_code, 8, (some .int), (4, 94), (0, 0))
def mm_X10_extra : zMM := (yX10_extra, prog_1_method_20_code, 5, (some .int), (3, 75), (0, 0))
def mm_X10_zeros : zMM := (yX10_zeros, prog_1_method_21_code, 7, (some .int), (5, 122), (0, 0))
def mm_X10_lifted : zMM := (yX10_lifted, prog_1_method_22_code, 4, (some .int), (4, 99), (0, 0))
def mm_X10_root : zMM := (yX10_root, prog_1_method_23_code, 4, (some .int), (4, 99), (0, 0))
def mm_X10_without : zMM := (yX10_without, prog_1_method_24_code, 3, (some .int), (4, 99), (0, 0))
def mm_X10_corner : zMM := (yX10_corner, prog_1_method_25_code, 4, (some .int), (4, 90), (0, 0))
def mm_X10_area : zMM := (yX10_area, prog_1_method_26_code, 3, (some .int), (4, 90), (0, 0))
def mm_X10_sum : zMM := (yX10_sum, prog_1_method_27_code, 5, (some .int), (4, 93), (0, 0))
def mm_X10_mixed : zMM := (yX10_mixed, prog_1_method_28_code, 5, (some .int), (4, 93), (0, 0))
def mm_X10_product : zMM := (yX10_product, prog_1_method_29_code, 4, (some .int), (5, 117), (0, 0))
def mm_X10_odds : zMM := (yX10_odds, prog_1_method_30_code, 5, (some .long), (4, 99), (0, 0))
def mm_X10_lots : zMM := (yX10_lots, prog_1_method_31_code, 5, (some .int), (4, 105), (0, 0))
def mm_X10_list : zMM := (yX10_list, prog_1_method_32_code, 3, (some .int), (2, 46), (0, 0))
def mm_X10_put : zMM := (yX10_put, prog_1_method_33_code, 5, (some .int), (2, 44), (0, 0))
def mm_X10_look : zMM := (yX10_look, prog_1_method_34_code, 4, (some .long), (2, 44), (0, 0))
def mm_X10_lays : zMM := (yX10_lays, prog_1_method_35_code, 8, (some .int), (5, 122), (0, 0))
def mm_X10_judge : zMM := (yX10_judge, prog_1_method_36_code, 7, (some .int), (5, 122), (0, 0))
def mm_X10_undo : zMM := (yX10_undo, prog_1_method_37_code, 1, (some .int), (5, 115), (0, 0))
def mm_X10_image : zMM := (yX10_image, prog_1_method_38_code, 1, (some .int), (3, 103), (0, 0))
def mm_X10_on : zMM := (yX10_on, prog_1_method_39_code, 1, (some .int), (3, 103), (0, 0))
def mm_X10_count : zMM := (yX10_count, prog_1_method_40_code, 2, (some .int), (3, 67), (0, 0))
def mm_X10_refuse : zMM := (yX10_refuse, prog_1_method_41_code, 3, (some .int), (0, 0), (0, 0))
def mm_X10_refuseLong : zMM := (yX10_refuseLong, prog_1_method_42_code, 2, (some .long), (1, 22), (0, 0))
def mm_X10_isLetter : zMM := (yX10_isLetter, prog_1_method_43_code, 1, (some .boolean), (0, 0), (0, 0))
def mm_X10_powersRefusal : zMM := (yX10_powersRefusal, prog_1_method_44_code, 4, (some .int), (1, 21), (0, 0))
def mm_X10_tableRefusal : zMM := (yX10_tableRefusal, prog_1_method_45_code, 5, (some .int), (2, 45), (0, 0))
def mm_X10_numberRefusal : zMM := (yX10_numberRefusal, prog_1_method_46_code, 2, (some .int), (0, 0), (0, 0))
def mm_X10_atRefusal : zMM := (yX10_atRefusal, prog_1_method_47_code, 6, (some .int), (3, 69), (0, 0))
def mm_X10_polygonRefusal : zMM := (yX10_polygonRefusal, prog_1_method_48_code, 3, (some .int), (2, 45), (0, 0))
def mm_X10_placeRefusal : zMM := (yX10_placeRefusal, prog_1_method_49_code, 3, (some .int), (1, 22), (0, 0))
def mm_X10_solve : zMM := (yX10_solve, prog_1_method_50_code, 5, none, (4, 98), (0, 0))
def mm_X10_divideAt : zMM := (yX10_divideAt, prog_1_method_51_code, 5, none, (3, 75), (0, 0))
def mm_X10_tryAll : zMM := (yX10_tryAll, prog_1_method_52_code, 4, none, (3, 76), (0, 0))
def mm_X11_no : zMM := (yX11_no, prog_13_method_1_code, 2, (some .int), (0, 0), (0, 0))
def mm_X11_lowest : zMM := (yX11_lowest, prog_13_method_2_code, 2, (some .long), (0, 0), (0, 0))
def mm_X11_isIn : zMM := (yX11_isIn, prog_13_method_3_code, 3, (some .boolean), (0, 0), (0, 0))
def mm_X11_rest : zMM := (yX11_rest, prog_13_method_4_code, 2, (some .int), (0, 0), (0, 0))
def mm_X11_power : zMM := (yX11_power, prog_13_method_5_code, 5, (some .int), (1, 21), (0, 0))
def mm_X11_inverse : zMM := (yX11_inverse, prog_13_method_6_code, 2, (some .int), (2, 45), (0, 0))
def mm_X11_isPrime : zMM := (yX11_isPrime, prog_13_method_7_code, 3, (some .boolean), (1, 22), (0, 0))
def mm_X11_init : zMM := (yX11_init, prog_13_method_8_code, 2, none, (1, 20), (21, 12007))
def mm_X11_isPoly : zMM := (yX11_isPoly, prog_13_method_9_code, 2, (some .boolean), (1, 22), (0, 0))
def mm_X11_toldOf : zMM := (yX11_toldOf, prog_13_method_10_code, 4, (some .int), (0, 0), (0, 0))
def mm_X11_evenOf : zMM := (yX11_evenOf, prog_13_method_11_code, 4, (some .int), (1, 23), (0, 0))
def mm_X11_shiftedOf : zMM := (yX11_shiftedOf, prog_13_method_12_code, 8, (some .int), (1, 23), (0, 0))
def mm_X11_coefficientOf : zMM := (yX11_coefficientOf, prog_13_method_13_code, 4, (some .int), (2, 50), (0, 0))
def mm_X11_isTerm : zMM := (yX11_isTerm, prog_13_method_14_code, 4, (some .boolean), (3, 73), (0, 0))
def mm_X11_degreeOf : zMM := (yX11_degreeOf, prog_13_method_15_code, 8, (some .int), (4, 96), (0, 0))
def mm_X11_isNought : zMM := (yX11_isNought, prog_13_method_16_code, 2, (some .boolean), (5, 123), (0, 0))
def mm_X11_termsOf : zMM := (yX11_termsOf, prog_13_method_17_code, 4, (some .int), (4, 96), (0, 0))
def mm_X11_valueAt : zMM := (yX11_valueAt, prog_13_method_18_code, 6, (some .int), (3, 73), (0, 0))
def mm_X11_notes : zMM := (yX11_notes, prog_13_method_19_code, 4, none, (0, 0), (0, 0))
def mm_X11_undo : zMM := (yX11_undo, prog_13_method_20_code, 2, (some .int), (1, 21), (0, 0))
def mm_X11_letter : zMM := (yX11_letter, prog_13_method_21_code, 2, (some .int), (1, 21), (0, 0))
def mm_X11_next : zMM := (yX11_next, prog_13_method_22_code, 1, (some .int), (0, 0), (0, 0))
def mm_X11_isDigit : zMM := (yX11_isDigit, prog_13_method_23_code, 1, (some .boolean), (1, 22), (0, 0))
def mm_X11_readsPower : zMM := (yX11_readsPower, prog_13_method_24_code, 2, (some .int), (1, 22), (0, 0))
def mm_X11_readsTerm : zMM := (yX11_readsTerm, prog_13_method_25_code, 6, (some .boolean), (2, 43), (0, 0))
def mm_X11_readsAll : zMM := (yX11_readsAll, prog_13_method_26_code, 2, (some .boolean), (3, 68), (0, 0))
def mm_X11_comes : zMM := (yX11_comes, prog_13_method_27_code, 2, (some .int), (0, 0), (0, 0))
def mm_X11_poly : zMM := (yX11_poly, prog_13_method_28_code, 2, (some .int), (4, 89), (0, 0))
def mm_X11_drop : zMM := (yX11_drop, prog_13_method_29_code, 1, (some .int), (1, 21), (0, 0))
def mm_X11_prime : zMM := (yX11_prime, prog_13_method_30_code, 4, (some .int), (2, 44), (0, 0))
def mm_X11_turn : zMM := (yX11_turn, prog_13_method_31_code, 6, (some .int), (2, 43), (0, 0))
def mm_X11_notPowers : zMM := (yX11_notPowers, prog_13_method_32_code, 4, (some .int), (2, 43), (0, 0))
def mm_X11_change : zMM := (yX11_change, prog_13_method_33_code, 8, (some .int), (3, 66), (0, 0))
def mm_X11_coefficient : zMM := (yX11_coefficient, prog_13_method_34_code, 5, (some .int), (3, 73), (0, 0))
def mm_X11_of : zMM := (yX11_of, prog_13_method_35_code, 3, (some .int), (5, 123), (0, 0))
def mm_X11_term : zMM := (yX11_term, prog_13_method_36_code, 10, (some .int), (4, 96), (0, 0))
def mm_X11_value : zMM := (yX11_value, prog_13_method_37_code, 5, (some .int), (4, 98), (0, 0))
def mm_X11_notTwo : zMM := (yX11_notTwo, prog_13_method_38_code, 4, (some .int), (2, 43), (0, 0))
def mm_X11_notTable : zMM := (yX11_notTable, prog_13_method_39_code, 5, (some .int), (6, 144), (0, 0))
def mm_X11_notBoth : zMM := (yX11_notBoth, prog_13_method_40_code, 4, (some .int), (7, 168), (0, 0))
def mm_X11_takes : zMM := (yX11_takes, prog_13_method_41_code, 7, none, (5, 123), (0, 0))
def mm_X11_oneAt : zMM := (yX11_oneAt, prog_13_method_42_code, 3, (some .int), (1, 22), (0, 0))
def mm_X11_twoAt : zMM := (yX11_twoAt, prog_13_method_43_code, 3, (some .int), (1, 22), (0, 0))
def mm_X11_fillsSylvester : zMM := (yX11_fillsSylvester, prog_13_method_44_code, 4, none, (2, 44), (0, 0))
def mm_X11_productAt : zMM := (yX11_productAt, prog_13_method_45_code, 6, (some .int), (2, 44), (0, 0))
def mm_X11_bezoutAt : zMM := (yX11_bezoutAt, prog_13_method_46_code, 6, (some .int), (3, 69), (0, 0))
def mm_X11_fillsBezout : zMM := (yX11_fillsBezout, prog_13_method_47_code, 4, none, (4, 94), (0, 0))
def mm_X11_fills : zMM := (yX11_fills, prog_13_method_48_code, 5, none, (6, 149), (0, 0))
def mm_X11_bits : zMM := (yX11_bits, prog_13_method_49_code, 3, (some .int), (0, 0), (0, 0))
def mm_X11_addsColumn : zMM := (yX11_addsColumn, prog_13_method_50_code, 10, none, (1, 22), (0, 0))
def mm_X11_determinant : zMM := (yX11_determinant, prog_13_method_51_code, 3, (some .int), (2, 51), (0, 0))
def mm_X11_results : zMM := (yX11_results, prog_13_method_52_code, 7, none, (7, 173), (0, 0))
def mm_X11_resultAt : zMM := (yX11_resultAt, prog_13_method_53_code, 4, (some .int), (0, 0), (0, 0))
def mm_X11_rows : zMM := (yX11_rows, prog_13_method_54_code, 6, (some .int), (7, 173), (0, 0))
def mm_X11_entry : zMM := (yX11_entry, prog_13_method_55_code, 9, (some .int), (7, 173), (0, 0))
def mm_X11_result : zMM := (yX11_result, prog_13_method_56_code, 7, (some .int), (8, 199), (0, 0))
def mm_X11_degree : zMM := (yX11_degree, prog_13_method_57_code, 7, (some .int), (8, 199), (0, 0))
def mm_X11_at : zMM := (yX11_at, prog_13_method_58_code, 7, (some .int), (8, 199), (0, 0))
def mm_X11_deepOf : zMM := (yX11_deepOf, prog_13_method_59_code, 3, (some .int), (0, 0), (0, 0))
def mm_X11_standsAt : zMM := (yX11_standsAt, prog_13_method_60_code, 4, none, (2, 44), (0, 0))
def mm_X11_divides : zMM := (yX11_divides, prog_13_method_61_code, 7, none, (3, 66), (0, 0))
def mm_X11_takesLeft : zMM := (yX11_takesLeft, prog_13_method_62_code, 3, none, (0, 0), (0, 0))
def mm_X11_remains : zMM := (yX11_remains, prog_13_method_63_code, 5, (some .int), (4, 92), (0, 0))
def mm_X11_notAt : zMM := (yX11_notAt, prog_13_method_64_code, 6, (some .int), (8, 191), (0, 0))
def mm_X11_remainder : zMM := (yX11_remainder, prog_13_method_65_code, 7, (some .int), (8, 191), (0, 0))
def mm_X11_common : zMM := (yX11_common, prog_13_method_66_code, 6, (some .int), (9, 216), (0, 0))
def mm_X11_norm : zMM := (yX11_norm, prog_13_method_67_code, 9, (some .int), (9, 216), (0, 0))
def mm_X11_extra : zMM := (yX11_extra, prog_13_method_68_code, 6, (some .int), (8, 191), (0, 0))
def mm_X11_zeros : zMM := (yX11_zeros, prog_13_method_69_code, 7, (some .int), (8, 199), (0, 0))
def mm_X11_isRoot : zMM := (yX11_isRoot, prog_13_method_70_code, 5, (some .boolean), (4, 98), (0, 0))
def mm_X11_lifted : zMM := (yX11_lifted, prog_13_method_71_code, 7, (some .int), (5, 122), (0, 0))
def mm_X11_root : zMM := (yX11_root, prog_13_method_72_code, 7, (some .int), (5, 122), (0, 0))
def mm_X11_without : zMM := (yX11_without, prog_13_method_73_code, 6, (some .int), (5, 122), (0, 0))
def mm_X11_clears : zMM := (yX11_clears, prog_13_method_74_code, 2, none, (0, 0), (0, 0))
def mm_X11_turns : zMM := (yX11_turns, prog_13_method_75_code, 3, (some .int), (0, 0), (0, 0))
def mm_X11_far : zMM := (yX11_far, prog_13_method_76_code, 4, (some .int), (0, 0), (0, 0))
def mm_X11_behind : zMM := (yX11_behind, prog_13_method_77_code, 5, (some .int), (1, 23), (0, 0))
def mm_X11_wraps : zMM := (yX11_wraps, prog_13_method_78_code, 3, none, (2, 47), (0, 0))
def mm_X11_wrapsOne : zMM := (yX11_wrapsOne, prog_13_method_79_code, 3, none, (4, 96), (0, 0))
def mm_X11_wrapsSum : zMM := (yX11_wrapsSum, prog_13_method_80_code, 5, none, (4, 96), (0, 0))
def mm_X11_areaNow : zMM := (yX11_areaNow, prog_13_method_81_code, 3, (some .int), (1, 22), (0, 0))
def mm_X11_cornerAt : zMM := (yX11_cornerAt, prog_13_method_82_code, 2, (some .int), (0, 0), (0, 0))
def mm_X11_corner : zMM := (yX11_corner, prog_13_method_83_code, 4, (some .int), (6, 144), (0, 0))
def mm_X11_areaOf : zMM := (yX11_areaOf, prog_13_method_84_code, 2, (some .int), (5, 118), (0, 0))
def mm_X11_area : zMM := (yX11_area, prog_13_method_85_code, 3, (some .int), (6, 144), (0, 0))
def mm_X11_sum : zMM := (yX11_sum, prog_13_method_86_code, 5, (some .int), (8, 191), (0, 0))
def mm_X11_mixed : zMM := (yX11_mixed, prog_13_method_87_code, 5, (some .int), (8, 191), (0, 0))
def mm_X11_multiplies : zMM := (yX11_multiplies, prog_13_method_88_code, 10, (some .boolean), (3, 73), (0, 0))
def mm_X11_product : zMM := (yX11_product, prog_13_method_89_code, 4, (some .int), (4, 102), (0, 0))
def mm_X11_divisor : zMM := (yX11_divisor, prog_13_method_90_code, 10, (some .long), (0, 0), (0, 0))
def mm_X11_odds : zMM := (yX11_odds, prog_13_method_91_code, 10, (some .long), (4, 98), (0, 0))
def mm_X11_draw : zMM := (yX11_draw, prog_13_method_92_code, 2, (some .int), (0, 0), (0, 0))
def mm_X11_lots : zMM := (yX11_lots, prog_13_method_93_code, 11, (some .int), (4, 98), (0, 0))
def mm_X11_isList : zMM := (yX11_isList, prog_13_method_94_code, 1, (some .boolean), (1, 22), (0, 0))
def mm_X11_list : zMM := (yX11_list, prog_13_method_95_code, 4, (some .int), (2, 42), (0, 0))
def mm_X11_notPlace : zMM := (yX11_notPlace, prog_13_method_96_code, 3, (some .int), (1, 22), (0, 0))
def mm_X11_put : zMM := (yX11_put, prog_13_method_97_code, 5, (some .int), (2, 44), (0, 0))
def mm_X11_look : zMM := (yX11_look, prog_13_method_98_code, 4, (some .long), (2, 44), (0, 0))
def mm_X11_notListed : zMM := (yX11_notListed, prog_13_method_99_code, 6, (some .int), (7, 168), (0, 0))
def mm_X11_lays : zMM := (yX11_lays, prog_13_method_100_code, 10, (some .int), (8, 199), (0, 0))
def mm_X11_judge : zMM := (yX11_judge, prog_13_method_101_code, 9, (some .int), (8, 199), (0, 0))
def mm_X11_passOne : zMM := (yX11_passOne, prog_13_method_102_code, 3, (some .int), (0, 0), (0, 0))
def mm_X11_passesAll : zMM := (yX11_passesAll, prog_13_method_103_code, 3, none, (1, 22), (0, 0))
def mm_X11_image : zMM := (yX11_image, prog_13_method_104_code, 1, (some .int), (2, 44), (0, 0))
def mm_X11_on : zMM := (yX11_on, prog_13_method_105_code, 1, (some .int), (2, 44), (0, 0))
def mm_X11_count : zMM := (yX11_count, prog_13_method_106_code, 4, (some .int), (6, 144), (0, 0))
def mm_J6_bitCount_0f7a4 : zMM := (yJ6_bitCount_0f7a4, prog_14_method_49_code, 1, (some .int), (0, 0), (0, 0))
def mm_J9_floorMod_7cf53 : zMM := (yJ9_floorMod_7cf53, prog_15_method_50_code, 3, (some .int), (0, 0), (0, 0))
def mm_J9_max_7cf53 : zMM := (yJ9_max_7cf53, prog_15_method_65_code, 2, (some .int), (0, 0), (0, 0))
def mm_J9_min_7cf53 : zMM := (yJ9_min_7cf53, prog_15_method_69_code, 2, (some .int), (0, 0), (0, 0))
def mm_J7_fill_53178 : zMM := (yJ7_fill_53178, prog_17_method_103_code, 4, none, (0, 0), (0, 0))
def mm_L_law : zMM := (yL_law, code, 4, (some .boolean), (12, 494), (600000, 7302250))
