-- ===== PART A: goes FIRST, ahead of the names: the tables' words, and 'selects' of the private methods out of them =====
/-- a private method of a class that the tables say can be made, by its rows of tables_1 -/
def lw_okq (q : MethodName × Nat) : Prop := (q.1.cls ≠ "java/lang/invoke/MethodHandle" ∧ q.1.cls ≠ "java/lang/invoke/VarHandle") ∧ Cond.instantiable q.1.cls q.2 ∈ tables_1 ∧ Cond.privateMethod q.1 ∈ tables_1 ∧ Cond.instanceMethod q.1 ∈ tables_1
theorem lw_p0 : lw_okq (⟨"ClothSchool", "setWidth", "(II)V"⟩, 16) := ⟨⟨by decide +kernel, by decide +kernel⟩, List.mem_of_getElem? (i := 15) (by decide +kernel), List.mem_of_getElem? (i := 331) (by decide +kernel), List.mem_of_getElem? (i := 332) (by decide +kernel)⟩
theorem lw_p1 : lw_okq (⟨"ClothSchool", "clothAt", "(I)LClothSchool$Cloth;"⟩, 16) := ⟨⟨by decide +kernel, by decide +kernel⟩, List.mem_of_getElem? (i := 15) (by decide +kernel), List.mem_of_getElem? (i := 371) (by decide +kernel), List.mem_of_getElem? (i := 372) (by decide +kernel)⟩
theorem lw_p2 : lw_okq (⟨"ClothSchool", "putOnTape", "(I)V"⟩, 16) := ⟨⟨by decide +kernel, by decide +kernel⟩, List.mem_of_getElem? (i := 15) (by decide +kernel), List.mem_of_getElem? (i := 383) (by decide +kernel), List.mem_of_getElem? (i := 384) (by decide +kernel)⟩
theorem lw_p3 : lw_okq (⟨"ClothSchool$Scribe", "steps", "(I)V"⟩, 8) := ⟨⟨by decide +kernel, by decide +kernel⟩, List.mem_of_getElem? (i := 27) (by decide +kernel), List.mem_of_getElem? (i := 404) (by decide +kernel), List.mem_of_getElem? (i := 405) (by decide +kernel)⟩
theorem lw_p4 : lw_okq (⟨"ClothSchool$Scribe", "step", "(I)V"⟩, 8) := ⟨⟨by decide +kernel, by decide +kernel⟩, List.mem_of_getElem? (i := 27) (by decide +kernel), List.mem_of_getElem? (i := 408) (by decide +kernel), List.mem_of_getElem? (i := 409) (by decide +kernel)⟩
theorem lw_p5 : lw_okq (⟨"ClothSchool$Scribe", "sign", "()I"⟩, 8) := ⟨⟨by decide +kernel, by decide +kernel⟩, List.mem_of_getElem? (i := 27) (by decide +kernel), List.mem_of_getElem? (i := 412) (by decide +kernel), List.mem_of_getElem? (i := 413) (by decide +kernel)⟩
theorem lw_p6 : lw_okq (⟨"ClothSchool$Scribe", "blame", "(I)V"⟩, 8) := ⟨⟨by decide +kernel, by decide +kernel⟩, List.mem_of_getElem? (i := 27) (by decide +kernel), List.mem_of_getElem? (i := 420) (by decide +kernel), List.mem_of_getElem? (i := 421) (by decide +kernel)⟩
theorem lw_p7 : lw_okq (⟨"ClothSchool$Scribe", "put", "(I)V"⟩, 8) := ⟨⟨by decide +kernel, by decide +kernel⟩, List.mem_of_getElem? (i := 27) (by decide +kernel), List.mem_of_getElem? (i := 424) (by decide +kernel), List.mem_of_getElem? (i := 425) (by decide +kernel)⟩
theorem lw_p8 : lw_okq (⟨"ClothSchool$Scribe", "restOfStep", "(II)V"⟩, 8) := ⟨⟨by decide +kernel, by decide +kernel⟩, List.mem_of_getElem? (i := 27) (by decide +kernel), List.mem_of_getElem? (i := 428) (by decide +kernel), List.mem_of_getElem? (i := 429) (by decide +kernel)⟩
theorem lw_p9 : lw_okq (⟨"ClothSchool$Scribe", "sum", "(I)V"⟩, 8) := ⟨⟨by decide +kernel, by decide +kernel⟩, List.mem_of_getElem? (i := 27) (by decide +kernel), List.mem_of_getElem? (i := 432) (by decide +kernel), List.mem_of_getElem? (i := 433) (by decide +kernel)⟩
theorem lw_p10 : lw_okq (⟨"ClothSchool$Scribe", "product", "(I)V"⟩, 8) := ⟨⟨by decide +kernel, by decide +kernel⟩, List.mem_of_getElem? (i := 27) (by decide +kernel), List.mem_of_getElem? (i := 436) (by decide +kernel), List.mem_of_getElem? (i := 437) (by decide +kernel)⟩
theorem lw_p11 : lw_okq (⟨"ClothSchool$Scribe", "factor", "(I)V"⟩, 8) := ⟨⟨by decide +kernel, by decide +kernel⟩, List.mem_of_getElem? (i := 27) (by decide +kernel), List.mem_of_getElem? (i := 440) (by decide +kernel), List.mem_of_getElem? (i := 441) (by decide +kernel)⟩
theorem lw_p12 : lw_okq (⟨"ClothSchool$Scribe", "number", "()V"⟩, 8) := ⟨⟨by decide +kernel, by decide +kernel⟩, List.mem_of_getElem? (i := 27) (by decide +kernel), List.mem_of_getElem? (i := 447) (by decide +kernel), List.mem_of_getElem? (i := 448) (by decide +kernel)⟩
theorem lw_p13 : lw_okq (⟨"ClothSchool$Scribe", "pass", "(I)V"⟩, 8) := ⟨⟨by decide +kernel, by decide +kernel⟩, List.mem_of_getElem? (i := 27) (by decide +kernel), List.mem_of_getElem? (i := 454) (by decide +kernel), List.mem_of_getElem? (i := 455) (by decide +kernel)⟩
theorem lw_p14 : lw_okq (⟨"ClothSchool$Scribe", "restOfRow", "(I)V"⟩, 8) := ⟨⟨by decide +kernel, by decide +kernel⟩, List.mem_of_getElem? (i := 27) (by decide +kernel), List.mem_of_getElem? (i := 458) (by decide +kernel), List.mem_of_getElem? (i := 459) (by decide +kernel)⟩
theorem lw_p15 : lw_okq (⟨"ClothSchool", "styleAt", "(I)LClothSchool$Style;"⟩, 16) := ⟨⟨by decide +kernel, by decide +kernel⟩, List.mem_of_getElem? (i := 15) (by decide +kernel), List.mem_of_getElem? (i := 493) (by decide +kernel), List.mem_of_getElem? (i := 494) (by decide +kernel)⟩
def lw_privs_1 : List (MethodName × Nat) := [(⟨"ClothSchool", "setWidth", "(II)V"⟩, 16), (⟨"ClothSchool", "clothAt", "(I)LClothSchool$Cloth;"⟩, 16), (⟨"ClothSchool", "putOnTape", "(I)V"⟩, 16), (⟨"ClothSchool$Scribe", "steps", "(I)V"⟩, 8), (⟨"ClothSchool$Scribe", "step", "(I)V"⟩, 8), (⟨"ClothSchool$Scribe", "sign", "()I"⟩, 8), (⟨"ClothSchool$Scribe", "blame", "(I)V"⟩, 8), (⟨"ClothSchool$Scribe", "put", "(I)V"⟩, 8), (⟨"ClothSchool$Scribe", "restOfStep", "(II)V"⟩, 8), (⟨"ClothSchool$Scribe", "sum", "(I)V"⟩, 8), (⟨"ClothSchool$Scribe", "product", "(I)V"⟩, 8), (⟨"ClothSchool$Scribe", "factor", "(I)V"⟩, 8), (⟨"ClothSchool$Scribe", "number", "()V"⟩, 8), (⟨"ClothSchool$Scribe", "pass", "(I)V"⟩, 8), (⟨"ClothSchool$Scribe", "restOfRow", "(I)V"⟩, 8), (⟨"ClothSchool", "styleAt", "(I)LClothSchool$Style;"⟩, 16)]
theorem lw_r1 : ∀ q ∈ lw_privs_1, lw_okq q := List.forall_mem_cons.mpr ⟨lw_p0, List.forall_mem_cons.mpr ⟨lw_p1, List.forall_mem_cons.mpr ⟨lw_p2, List.forall_mem_cons.mpr ⟨lw_p3, List.forall_mem_cons.mpr ⟨lw_p4, List.forall_mem_cons.mpr ⟨lw_p5, List.forall_mem_cons.mpr ⟨lw_p6, List.forall_mem_cons.mpr ⟨lw_p7, List.forall_mem_cons.mpr ⟨lw_p8, List.forall_mem_cons.mpr ⟨lw_p9, List.forall_mem_cons.mpr ⟨lw_p10, List.forall_mem_cons.mpr ⟨lw_p11, List.forall_mem_cons.mpr ⟨lw_p12, List.forall_mem_cons.mpr ⟨lw_p13, List.forall_mem_cons.mpr ⟨lw_p14, List.forall_mem_cons.mpr ⟨lw_p15, fun _ h => absurd h List.not_mem_nil⟩⟩⟩⟩⟩⟩⟩⟩⟩⟩⟩⟩⟩⟩⟩⟩
theorem lw_p16 : lw_okq (⟨"ClothSchool$Hand", "obey", "(ILClothSchool$Drape;)I"⟩, 10) := ⟨⟨by decide +kernel, by decide +kernel⟩, List.mem_of_getElem? (i := 61) (by decide +kernel), List.mem_of_getElem? (i := 512) (by decide +kernel), List.mem_of_getElem? (i := 513) (by decide +kernel)⟩
theorem lw_p17 : lw_okq (⟨"ClothSchool$Hand", "push", "(I)I"⟩, 10) := ⟨⟨by decide +kernel, by decide +kernel⟩, List.mem_of_getElem? (i := 61) (by decide +kernel), List.mem_of_getElem? (i := 516) (by decide +kernel), List.mem_of_getElem? (i := 517) (by decide +kernel)⟩
theorem lw_p18 : lw_okq (⟨"ClothSchool$Hand", "name", "(I)I"⟩, 10) := ⟨⟨by decide +kernel, by decide +kernel⟩, List.mem_of_getElem? (i := 61) (by decide +kernel), List.mem_of_getElem? (i := 520) (by decide +kernel), List.mem_of_getElem? (i := 521) (by decide +kernel)⟩
theorem lw_p19 : lw_okq (⟨"ClothSchool$Hand", "pop", "()I"⟩, 10) := ⟨⟨by decide +kernel, by decide +kernel⟩, List.mem_of_getElem? (i := 61) (by decide +kernel), List.mem_of_getElem? (i := 524) (by decide +kernel), List.mem_of_getElem? (i := 525) (by decide +kernel)⟩
theorem lw_p20 : lw_okq (⟨"ClothSchool$Hand", "reckon", "(I)I"⟩, 10) := ⟨⟨by decide +kernel, by decide +kernel⟩, List.mem_of_getElem? (i := 61) (by decide +kernel), List.mem_of_getElem? (i := 528) (by decide +kernel), List.mem_of_getElem? (i := 529) (by decide +kernel)⟩
theorem lw_p21 : lw_okq (⟨"ClothSchool$Hand", "beginRow", "()I"⟩, 10) := ⟨⟨by decide +kernel, by decide +kernel⟩, List.mem_of_getElem? (i := 61) (by decide +kernel), List.mem_of_getElem? (i := 532) (by decide +kernel), List.mem_of_getElem? (i := 533) (by decide +kernel)⟩
theorem lw_p22 : lw_okq (⟨"ClothSchool$Hand", "endOfRow", "()I"⟩, 10) := ⟨⟨by decide +kernel, by decide +kernel⟩, List.mem_of_getElem? (i := 61) (by decide +kernel), List.mem_of_getElem? (i := 539) (by decide +kernel), List.mem_of_getElem? (i := 540) (by decide +kernel)⟩
theorem lw_p23 : lw_okq (⟨"ClothSchool$Hand", "valueOf", "(ILClothSchool$Drape;)I"⟩, 10) := ⟨⟨by decide +kernel, by decide +kernel⟩, List.mem_of_getElem? (i := 61) (by decide +kernel), List.mem_of_getElem? (i := 543) (by decide +kernel), List.mem_of_getElem? (i := 544) (by decide +kernel)⟩
theorem lw_p24 : lw_okq (⟨"ClothSchool$Hand", "act", "(ILClothSchool$Drape;)I"⟩, 10) := ⟨⟨by decide +kernel, by decide +kernel⟩, List.mem_of_getElem? (i := 61) (by decide +kernel), List.mem_of_getElem? (i := 556) (by decide +kernel), List.mem_of_getElem? (i := 557) (by decide +kernel)⟩
theorem lw_p25 : lw_okq (⟨"ClothSchool$Hand", "pleat", "(LClothSchool$Drape;)I"⟩, 10) := ⟨⟨by decide +kernel, by decide +kernel⟩, List.mem_of_getElem? (i := 61) (by decide +kernel), List.mem_of_getElem? (i := 571) (by decide +kernel), List.mem_of_getElem? (i := 572) (by decide +kernel)⟩
theorem lw_p26 : lw_okq (⟨"ClothSchool", "allWithin", "(II)Z"⟩, 16) := ⟨⟨by decide +kernel, by decide +kernel⟩, List.mem_of_getElem? (i := 15) (by decide +kernel), List.mem_of_getElem? (i := 727) (by decide +kernel), List.mem_of_getElem? (i := 728) (by decide +kernel)⟩
theorem lw_p27 : lw_okq (⟨"ClothSchool$Holding", "doMove", "(LClothSchool$Layers;II)V"⟩, 6) := ⟨⟨by decide +kernel, by decide +kernel⟩, List.mem_of_getElem? (i := 207) (by decide +kernel), List.mem_of_getElem? (i := 740) (by decide +kernel), List.mem_of_getElem? (i := 741) (by decide +kernel)⟩
theorem lw_p28 : lw_okq (⟨"ClothSchool$Holding", "slip", "(III)V"⟩, 6) := ⟨⟨by decide +kernel, by decide +kernel⟩, List.mem_of_getElem? (i := 207) (by decide +kernel), List.mem_of_getElem? (i := 746) (by decide +kernel), List.mem_of_getElem? (i := 747) (by decide +kernel)⟩
theorem lw_p29 : lw_okq (⟨"ClothSchool$Picture", "isOff", "(I)Z"⟩, 10) := ⟨⟨by decide +kernel, by decide +kernel⟩, List.mem_of_getElem? (i := 236) (by decide +kernel), List.mem_of_getElem? (i := 798) (by decide +kernel), List.mem_of_getElem? (i := 799) (by decide +kernel)⟩
theorem lw_p30 : lw_okq (⟨"ClothSchool$Picture", "tryFrom", "(ILClothSchool$Drape;LClothSchool$Cloth;)V"⟩, 10) := ⟨⟨by decide +kernel, by decide +kernel⟩, List.mem_of_getElem? (i := 236) (by decide +kernel), List.mem_of_getElem? (i := 803) (by decide +kernel), List.mem_of_getElem? (i := 804) (by decide +kernel)⟩
theorem lw_p31 : lw_okq (⟨"ClothSchool$Picture", "paint", "(LClothSchool$Layers;ILClothSchool$Cloth;)V"⟩, 10) := ⟨⟨by decide +kernel, by decide +kernel⟩, List.mem_of_getElem? (i := 236) (by decide +kernel), List.mem_of_getElem? (i := 817) (by decide +kernel), List.mem_of_getElem? (i := 818) (by decide +kernel)⟩
def lw_privs_2 : List (MethodName × Nat) := [(⟨"ClothSchool$Hand", "obey", "(ILClothSchool$Drape;)I"⟩, 10), (⟨"ClothSchool$Hand", "push", "(I)I"⟩, 10), (⟨"ClothSchool$Hand", "name", "(I)I"⟩, 10), (⟨"ClothSchool$Hand", "pop", "()I"⟩, 10), (⟨"ClothSchool$Hand", "reckon", "(I)I"⟩, 10), (⟨"ClothSchool$Hand", "beginRow", "()I"⟩, 10), (⟨"ClothSchool$Hand", "endOfRow", "()I"⟩, 10), (⟨"ClothSchool$Hand", "valueOf", "(ILClothSchool$Drape;)I"⟩, 10), (⟨"ClothSchool$Hand", "act", "(ILClothSchool$Drape;)I"⟩, 10), (⟨"ClothSchool$Hand", "pleat", "(LClothSchool$Drape;)I"⟩, 10), (⟨"ClothSchool", "allWithin", "(II)Z"⟩, 16), (⟨"ClothSchool$Holding", "doMove", "(LClothSchool$Layers;II)V"⟩, 6), (⟨"ClothSchool$Holding", "slip", "(III)V"⟩, 6), (⟨"ClothSchool$Picture", "isOff", "(I)Z"⟩, 10), (⟨"ClothSchool$Picture", "tryFrom", "(ILClothSchool$Drape;LClothSchool$Cloth;)V"⟩, 10), (⟨"ClothSchool$Picture", "paint", "(LClothSchool$Layers;ILClothSchool$Cloth;)V"⟩, 10)]
theorem lw_r2 : ∀ q ∈ lw_privs_2, lw_okq q := List.forall_mem_cons.mpr ⟨lw_p16, List.forall_mem_cons.mpr ⟨lw_p17, List.forall_mem_cons.mpr ⟨lw_p18, List.forall_mem_cons.mpr ⟨lw_p19, List.forall_mem_cons.mpr ⟨lw_p20, List.forall_mem_cons.mpr ⟨lw_p21, List.forall_mem_cons.mpr ⟨lw_p22, List.forall_mem_cons.mpr ⟨lw_p23, List.forall_mem_cons.mpr ⟨lw_p24, List.forall_mem_cons.mpr ⟨lw_p25, List.forall_mem_cons.mpr ⟨lw_p26, List.forall_mem_cons.mpr ⟨lw_p27, List.forall_mem_cons.mpr ⟨lw_p28, List.forall_mem_cons.mpr ⟨lw_p29, List.forall_mem_cons.mpr ⟨lw_p30, List.forall_mem_cons.mpr ⟨lw_p31, fun _ h => absurd h List.not_mem_nil⟩⟩⟩⟩⟩⟩⟩⟩⟩⟩⟩⟩⟩⟩⟩⟩
theorem lw_p32 : lw_okq (⟨"ClothSchool$Picture", "see", "(II)V"⟩, 10) := ⟨⟨by decide +kernel, by decide +kernel⟩, List.mem_of_getElem? (i := 236) (by decide +kernel), List.mem_of_getElem? (i := 825) (by decide +kernel), List.mem_of_getElem? (i := 826) (by decide +kernel)⟩
theorem lw_p33 : lw_okq (⟨"ClothSchool$Picture", "keepIfShown", "(I)V"⟩, 10) := ⟨⟨by decide +kernel, by decide +kernel⟩, List.mem_of_getElem? (i := 236) (by decide +kernel), List.mem_of_getElem? (i := 829) (by decide +kernel), List.mem_of_getElem? (i := 830) (by decide +kernel)⟩
theorem lw_p34 : lw_okq (⟨"ClothSchool$Picture", "unpaint", "(I)V"⟩, 10) := ⟨⟨by decide +kernel, by decide +kernel⟩, List.mem_of_getElem? (i := 236) (by decide +kernel), List.mem_of_getElem? (i := 835) (by decide +kernel), List.mem_of_getElem? (i := 836) (by decide +kernel)⟩
theorem lw_p35 : lw_okq (⟨"ClothSchoolModel", "isCloth", "(I)Z"⟩, 72) := ⟨⟨by decide +kernel, by decide +kernel⟩, List.mem_of_getElem? (i := 852) (by decide +kernel), List.mem_of_getElem? (i := 1091) (by decide +kernel), List.mem_of_getElem? (i := 1092) (by decide +kernel)⟩
theorem lw_p36 : lw_okq (⟨"ClothSchoolModel", "push", "(I)V"⟩, 72) := ⟨⟨by decide +kernel, by decide +kernel⟩, List.mem_of_getElem? (i := 852) (by decide +kernel), List.mem_of_getElem? (i := 1103) (by decide +kernel), List.mem_of_getElem? (i := 1104) (by decide +kernel)⟩
theorem lw_p37 : lw_okq (⟨"ClothSchoolModel", "looksAt", "()I"⟩, 72) := ⟨⟨by decide +kernel, by decide +kernel⟩, List.mem_of_getElem? (i := 852) (by decide +kernel), List.mem_of_getElem? (i := 1111) (by decide +kernel), List.mem_of_getElem? (i := 1112) (by decide +kernel)⟩
theorem lw_p38 : lw_okq (⟨"ClothSchoolModel", "here", "()I"⟩, 72) := ⟨⟨by decide +kernel, by decide +kernel⟩, List.mem_of_getElem? (i := 852) (by decide +kernel), List.mem_of_getElem? (i := 1115) (by decide +kernel), List.mem_of_getElem? (i := 1116) (by decide +kernel)⟩
theorem lw_p39 : lw_okq (⟨"ClothSchoolModel", "fails", "(I)V"⟩, 72) := ⟨⟨by decide +kernel, by decide +kernel⟩, List.mem_of_getElem? (i := 852) (by decide +kernel), List.mem_of_getElem? (i := 1128) (by decide +kernel), List.mem_of_getElem? (i := 1129) (by decide +kernel)⟩
theorem lw_p40 : lw_okq (⟨"ClothSchoolModel", "must", "(I)V"⟩, 72) := ⟨⟨by decide +kernel, by decide +kernel⟩, List.mem_of_getElem? (i := 852) (by decide +kernel), List.mem_of_getElem? (i := 1132) (by decide +kernel), List.mem_of_getElem? (i := 1133) (by decide +kernel)⟩
theorem lw_p41 : lw_okq (⟨"ClothSchoolModel", "looksAtSum", "()V"⟩, 72) := ⟨⟨by decide +kernel, by decide +kernel⟩, List.mem_of_getElem? (i := 852) (by decide +kernel), List.mem_of_getElem? (i := 1136) (by decide +kernel), List.mem_of_getElem? (i := 1137) (by decide +kernel)⟩
theorem lw_p42 : lw_okq (⟨"ClothSchoolModel", "looksAtNumber", "()V"⟩, 72) := ⟨⟨by decide +kernel, by decide +kernel⟩, List.mem_of_getElem? (i := 852) (by decide +kernel), List.mem_of_getElem? (i := 1143) (by decide +kernel), List.mem_of_getElem? (i := 1144) (by decide +kernel)⟩
theorem lw_p43 : lw_okq (⟨"ClothSchoolModel", "isStyle", "(I)Z"⟩, 72) := ⟨⟨by decide +kernel, by decide +kernel⟩, List.mem_of_getElem? (i := 852) (by decide +kernel), List.mem_of_getElem? (i := 1160) (by decide +kernel), List.mem_of_getElem? (i := 1161) (by decide +kernel)⟩
theorem lw_p44 : lw_okq (⟨"ClothSchoolModel", "isBody", "(I)Z"⟩, 72) := ⟨⟨by decide +kernel, by decide +kernel⟩, List.mem_of_getElem? (i := 852) (by decide +kernel), List.mem_of_getElem? (i := 1164) (by decide +kernel), List.mem_of_getElem? (i := 1165) (by decide +kernel)⟩
theorem lw_p45 : lw_okq (⟨"ClothSchoolModel", "drapes", "(IIIIII)V"⟩, 72) := ⟨⟨by decide +kernel, by decide +kernel⟩, List.mem_of_getElem? (i := 852) (by decide +kernel), List.mem_of_getElem? (i := 1168) (by decide +kernel), List.mem_of_getElem? (i := 1169) (by decide +kernel)⟩
theorem lw_p46 : lw_okq (⟨"ClothSchoolModel", "breaks", "(I)V"⟩, 72) := ⟨⟨by decide +kernel, by decide +kernel⟩, List.mem_of_getElem? (i := 852) (by decide +kernel), List.mem_of_getElem? (i := 1172) (by decide +kernel), List.mem_of_getElem? (i := 1173) (by decide +kernel)⟩
theorem lw_p47 : lw_okq (⟨"ClothSchoolModel", "step", "()V"⟩, 72) := ⟨⟨by decide +kernel, by decide +kernel⟩, List.mem_of_getElem? (i := 852) (by decide +kernel), List.mem_of_getElem? (i := 1176) (by decide +kernel), List.mem_of_getElem? (i := 1177) (by decide +kernel)⟩
def lw_privs_3 : List (MethodName × Nat) := [(⟨"ClothSchool$Picture", "see", "(II)V"⟩, 10), (⟨"ClothSchool$Picture", "keepIfShown", "(I)V"⟩, 10), (⟨"ClothSchool$Picture", "unpaint", "(I)V"⟩, 10), (⟨"ClothSchoolModel", "isCloth", "(I)Z"⟩, 72), (⟨"ClothSchoolModel", "push", "(I)V"⟩, 72), (⟨"ClothSchoolModel", "looksAt", "()I"⟩, 72), (⟨"ClothSchoolModel", "here", "()I"⟩, 72), (⟨"ClothSchoolModel", "fails", "(I)V"⟩, 72), (⟨"ClothSchoolModel", "must", "(I)V"⟩, 72), (⟨"ClothSchoolModel", "looksAtSum", "()V"⟩, 72), (⟨"ClothSchoolModel", "looksAtNumber", "()V"⟩, 72), (⟨"ClothSchoolModel", "isStyle", "(I)Z"⟩, 72), (⟨"ClothSchoolModel", "isBody", "(I)Z"⟩, 72), (⟨"ClothSchoolModel", "drapes", "(IIIIII)V"⟩, 72), (⟨"ClothSchoolModel", "breaks", "(I)V"⟩, 72), (⟨"ClothSchoolModel", "step", "()V"⟩, 72)]
theorem lw_r3 : ∀ q ∈ lw_privs_3, lw_okq q := List.forall_mem_cons.mpr ⟨lw_p32, List.forall_mem_cons.mpr ⟨lw_p33, List.forall_mem_cons.mpr ⟨lw_p34, List.forall_mem_cons.mpr ⟨lw_p35, List.forall_mem_cons.mpr ⟨lw_p36, List.forall_mem_cons.mpr ⟨lw_p37, List.forall_mem_cons.mpr ⟨lw_p38, List.forall_mem_cons.mpr ⟨lw_p39, List.forall_mem_cons.mpr ⟨lw_p40, List.forall_mem_cons.mpr ⟨lw_p41, List.forall_mem_cons.mpr ⟨lw_p42, List.forall_mem_cons.mpr ⟨lw_p43, List.forall_mem_cons.mpr ⟨lw_p44, List.forall_mem_cons.mpr ⟨lw_p45, List.forall_mem_cons.mpr ⟨lw_p46, List.forall_mem_cons.mpr ⟨lw_p47, fun _ h => absurd h List.not_mem_nil⟩⟩⟩⟩⟩⟩⟩⟩⟩⟩⟩⟩⟩⟩⟩⟩
theorem lw_p48 : lw_okq (⟨"ClothSchoolModel", "sum", "()I"⟩, 72) := ⟨⟨by decide +kernel, by decide +kernel⟩, List.mem_of_getElem? (i := 852) (by decide +kernel), List.mem_of_getElem? (i := 1180) (by decide +kernel), List.mem_of_getElem? (i := 1181) (by decide +kernel)⟩
theorem lw_p49 : lw_okq (⟨"ClothSchoolModel", "valueOf", "(I)I"⟩, 72) := ⟨⟨by decide +kernel, by decide +kernel⟩, List.mem_of_getElem? (i := 852) (by decide +kernel), List.mem_of_getElem? (i := 1184) (by decide +kernel), List.mem_of_getElem? (i := 1185) (by decide +kernel)⟩
theorem lw_p50 : lw_okq (⟨"ClothSchoolModel", "widthAt", "(III)I"⟩, 72) := ⟨⟨by decide +kernel, by decide +kernel⟩, List.mem_of_getElem? (i := 852) (by decide +kernel), List.mem_of_getElem? (i := 1188) (by decide +kernel), List.mem_of_getElem? (i := 1189) (by decide +kernel)⟩
theorem lw_p51 : lw_okq (⟨"ClothSchoolModel", "works", "()V"⟩, 72) := ⟨⟨by decide +kernel, by decide +kernel⟩, List.mem_of_getElem? (i := 852) (by decide +kernel), List.mem_of_getElem? (i := 1195) (by decide +kernel), List.mem_of_getElem? (i := 1196) (by decide +kernel)⟩
theorem lw_p52 : lw_okq (⟨"ClothSchoolModel", "winds", "(I)V"⟩, 72) := ⟨⟨by decide +kernel, by decide +kernel⟩, List.mem_of_getElem? (i := 852) (by decide +kernel), List.mem_of_getElem? (i := 1199) (by decide +kernel), List.mem_of_getElem? (i := 1200) (by decide +kernel)⟩
theorem lw_p53 : lw_okq (⟨"ClothSchoolModel", "left", "()I"⟩, 72) := ⟨⟨by decide +kernel, by decide +kernel⟩, List.mem_of_getElem? (i := 852) (by decide +kernel), List.mem_of_getElem? (i := 1206) (by decide +kernel), List.mem_of_getElem? (i := 1207) (by decide +kernel)⟩
theorem lw_p54 : lw_okq (⟨"ClothSchoolModel", "lays", "(IIII)V"⟩, 72) := ⟨⟨by decide +kernel, by decide +kernel⟩, List.mem_of_getElem? (i := 852) (by decide +kernel), List.mem_of_getElem? (i := 1210) (by decide +kernel), List.mem_of_getElem? (i := 1211) (by decide +kernel)⟩
theorem lw_p55 : lw_okq (⟨"ClothSchoolModel", "acted", "()V"⟩, 72) := ⟨⟨by decide +kernel, by decide +kernel⟩, List.mem_of_getElem? (i := 852) (by decide +kernel), List.mem_of_getElem? (i := 1214) (by decide +kernel), List.mem_of_getElem? (i := 1215) (by decide +kernel)⟩
theorem lw_p56 : lw_okq (⟨"ClothSchoolModel", "pleats", "(II)V"⟩, 72) := ⟨⟨by decide +kernel, by decide +kernel⟩, List.mem_of_getElem? (i := 852) (by decide +kernel), List.mem_of_getElem? (i := 1218) (by decide +kernel), List.mem_of_getElem? (i := 1219) (by decide +kernel)⟩
theorem lw_p57 : lw_okq (⟨"ClothSchoolModel", "climbs", "(IZ)V"⟩, 72) := ⟨⟨by decide +kernel, by decide +kernel⟩, List.mem_of_getElem? (i := 852) (by decide +kernel), List.mem_of_getElem? (i := 1222) (by decide +kernel), List.mem_of_getElem? (i := 1223) (by decide +kernel)⟩
theorem lw_p58 : lw_okq (⟨"ClothSchoolModel", "wastes", "(I)V"⟩, 72) := ⟨⟨by decide +kernel, by decide +kernel⟩, List.mem_of_getElem? (i := 852) (by decide +kernel), List.mem_of_getElem? (i := 1226) (by decide +kernel), List.mem_of_getElem? (i := 1227) (by decide +kernel)⟩
theorem lw_p59 : lw_okq (⟨"ClothSchoolModel", "shoulders", "()V"⟩, 72) := ⟨⟨by decide +kernel, by decide +kernel⟩, List.mem_of_getElem? (i := 852) (by decide +kernel), List.mem_of_getElem? (i := 1230) (by decide +kernel), List.mem_of_getElem? (i := 1231) (by decide +kernel)⟩
theorem lw_p60 : lw_okq (⟨"ClothSchoolModel", "hangs", "(I)V"⟩, 72) := ⟨⟨by decide +kernel, by decide +kernel⟩, List.mem_of_getElem? (i := 852) (by decide +kernel), List.mem_of_getElem? (i := 1234) (by decide +kernel), List.mem_of_getElem? (i := 1235) (by decide +kernel)⟩
theorem lw_p61 : lw_okq (⟨"ClothSchoolModel", "tucks", "()V"⟩, 72) := ⟨⟨by decide +kernel, by decide +kernel⟩, List.mem_of_getElem? (i := 852) (by decide +kernel), List.mem_of_getElem? (i := 1238) (by decide +kernel), List.mem_of_getElem? (i := 1239) (by decide +kernel)⟩
theorem lw_p62 : lw_okq (⟨"ClothSchoolModel", "opens", "(I)V"⟩, 72) := ⟨⟨by decide +kernel, by decide +kernel⟩, List.mem_of_getElem? (i := 852) (by decide +kernel), List.mem_of_getElem? (i := 1242) (by decide +kernel), List.mem_of_getElem? (i := 1243) (by decide +kernel)⟩
theorem lw_p63 : lw_okq (⟨"ClothSchoolModel", "skips", "()V"⟩, 72) := ⟨⟨by decide +kernel, by decide +kernel⟩, List.mem_of_getElem? (i := 852) (by decide +kernel), List.mem_of_getElem? (i := 1246) (by decide +kernel), List.mem_of_getElem? (i := 1247) (by decide +kernel)⟩
def lw_privs_4 : List (MethodName × Nat) := [(⟨"ClothSchoolModel", "sum", "()I"⟩, 72), (⟨"ClothSchoolModel", "valueOf", "(I)I"⟩, 72), (⟨"ClothSchoolModel", "widthAt", "(III)I"⟩, 72), (⟨"ClothSchoolModel", "works", "()V"⟩, 72), (⟨"ClothSchoolModel", "winds", "(I)V"⟩, 72), (⟨"ClothSchoolModel", "left", "()I"⟩, 72), (⟨"ClothSchoolModel", "lays", "(IIII)V"⟩, 72), (⟨"ClothSchoolModel", "acted", "()V"⟩, 72), (⟨"ClothSchoolModel", "pleats", "(II)V"⟩, 72), (⟨"ClothSchoolModel", "climbs", "(IZ)V"⟩, 72), (⟨"ClothSchoolModel", "wastes", "(I)V"⟩, 72), (⟨"ClothSchoolModel", "shoulders", "()V"⟩, 72), (⟨"ClothSchoolModel", "hangs", "(I)V"⟩, 72), (⟨"ClothSchoolModel", "tucks", "()V"⟩, 72), (⟨"ClothSchoolModel", "opens", "(I)V"⟩, 72), (⟨"ClothSchoolModel", "skips", "()V"⟩, 72)]
theorem lw_r4 : ∀ q ∈ lw_privs_4, lw_okq q := List.forall_mem_cons.mpr ⟨lw_p48, List.forall_mem_cons.mpr ⟨lw_p49, List.forall_mem_cons.mpr ⟨lw_p50, List.forall_mem_cons.mpr ⟨lw_p51, List.forall_mem_cons.mpr ⟨lw_p52, List.forall_mem_cons.mpr ⟨lw_p53, List.forall_mem_cons.mpr ⟨lw_p54, List.forall_mem_cons.mpr ⟨lw_p55, List.forall_mem_cons.mpr ⟨lw_p56, List.forall_mem_cons.mpr ⟨lw_p57, List.forall_mem_cons.mpr ⟨lw_p58, List.forall_mem_cons.mpr ⟨lw_p59, List.forall_mem_cons.mpr ⟨lw_p60, List.forall_mem_cons.mpr ⟨lw_p61, List.forall_mem_cons.mpr ⟨lw_p62, List.forall_mem_cons.mpr ⟨lw_p63, fun _ h => absurd h List.not_mem_nil⟩⟩⟩⟩⟩⟩⟩⟩⟩⟩⟩⟩⟩⟩⟩⟩
theorem lw_p64 : lw_okq (⟨"ClothSchoolModel", "goesOn", "()V"⟩, 72) := ⟨⟨by decide +kernel, by decide +kernel⟩, List.mem_of_getElem? (i := 852) (by decide +kernel), List.mem_of_getElem? (i := 1250) (by decide +kernel), List.mem_of_getElem? (i := 1251) (by decide +kernel)⟩
theorem lw_p65 : lw_okq (⟨"ClothSchoolModel", "showsAt", "(IIZ)I"⟩, 72) := ⟨⟨by decide +kernel, by decide +kernel⟩, List.mem_of_getElem? (i := 852) (by decide +kernel), List.mem_of_getElem? (i := 1261) (by decide +kernel), List.mem_of_getElem? (i := 1262) (by decide +kernel)⟩
theorem lw_p66 : lw_okq (⟨"ClothSchoolModel", "lies0", "(III)Z"⟩, 72) := ⟨⟨by decide +kernel, by decide +kernel⟩, List.mem_of_getElem? (i := 852) (by decide +kernel), List.mem_of_getElem? (i := 1265) (by decide +kernel), List.mem_of_getElem? (i := 1266) (by decide +kernel)⟩
theorem lw_p67 : lw_okq (⟨"ClothSchoolModel", "colourOf", "(IIII)I"⟩, 72) := ⟨⟨by decide +kernel, by decide +kernel⟩, List.mem_of_getElem? (i := 852) (by decide +kernel), List.mem_of_getElem? (i := 1269) (by decide +kernel), List.mem_of_getElem? (i := 1270) (by decide +kernel)⟩
theorem lw_p68 : lw_okq (⟨"ClothSchoolModel", "allPins", "()I"⟩, 72) := ⟨⟨by decide +kernel, by decide +kernel⟩, List.mem_of_getElem? (i := 852) (by decide +kernel), List.mem_of_getElem? (i := 1285) (by decide +kernel), List.mem_of_getElem? (i := 1286) (by decide +kernel)⟩
theorem lw_p69 : lw_okq (⟨"ClothSchoolModel", "strengthOf", "(IZ)I"⟩, 72) := ⟨⟨by decide +kernel, by decide +kernel⟩, List.mem_of_getElem? (i := 852) (by decide +kernel), List.mem_of_getElem? (i := 1293) (by decide +kernel), List.mem_of_getElem? (i := 1294) (by decide +kernel)⟩
theorem lw_p70 : lw_okq (⟨"ClothSchoolModel", "upon", "(IIZ)I"⟩, 72) := ⟨⟨by decide +kernel, by decide +kernel⟩, List.mem_of_getElem? (i := 852) (by decide +kernel), List.mem_of_getElem? (i := 1297) (by decide +kernel), List.mem_of_getElem? (i := 1298) (by decide +kernel)⟩
theorem lw_p71 : lw_okq (⟨"ClothSchoolModel", "pullOf", "(IIZ)I"⟩, 72) := ⟨⟨by decide +kernel, by decide +kernel⟩, List.mem_of_getElem? (i := 852) (by decide +kernel), List.mem_of_getElem? (i := 1309) (by decide +kernel), List.mem_of_getElem? (i := 1310) (by decide +kernel)⟩
theorem lw_p72 : lw_okq (⟨"ClothSchoolModel", "hasLayers", "(I)Z"⟩, 72) := ⟨⟨by decide +kernel, by decide +kernel⟩, List.mem_of_getElem? (i := 852) (by decide +kernel), List.mem_of_getElem? (i := 1317) (by decide +kernel), List.mem_of_getElem? (i := 1318) (by decide +kernel)⟩
theorem lw_p73 : lw_okq (⟨"ClothSchoolModel", "does", "(IIII)Z"⟩, 72) := ⟨⟨by decide +kernel, by decide +kernel⟩, List.mem_of_getElem? (i := 852) (by decide +kernel), List.mem_of_getElem? (i := 1352) (by decide +kernel), List.mem_of_getElem? (i := 1353) (by decide +kernel)⟩
theorem lw_p74 : lw_okq (⟨"ClothSchoolModel", "paints", "(IIIIII)V"⟩, 72) := ⟨⟨by decide +kernel, by decide +kernel⟩, List.mem_of_getElem? (i := 852) (by decide +kernel), List.mem_of_getElem? (i := 1356) (by decide +kernel), List.mem_of_getElem? (i := 1357) (by decide +kernel)⟩
theorem lw_p75 : lw_okq (⟨"ClothSchoolModel", "isLike", "(I)Z"⟩, 72) := ⟨⟨by decide +kernel, by decide +kernel⟩, List.mem_of_getElem? (i := 852) (by decide +kernel), List.mem_of_getElem? (i := 1360) (by decide +kernel), List.mem_of_getElem? (i := 1361) (by decide +kernel)⟩
theorem lw_p76 : lw_okq (⟨"ClothSchoolModel", "ofCloth", "(II)I"⟩, 72) := ⟨⟨by decide +kernel, by decide +kernel⟩, List.mem_of_getElem? (i := 852) (by decide +kernel), List.mem_of_getElem? (i := 1372) (by decide +kernel), List.mem_of_getElem? (i := 1373) (by decide +kernel)⟩
def lw_privs_5 : List (MethodName × Nat) := [(⟨"ClothSchoolModel", "goesOn", "()V"⟩, 72), (⟨"ClothSchoolModel", "showsAt", "(IIZ)I"⟩, 72), (⟨"ClothSchoolModel", "lies0", "(III)Z"⟩, 72), (⟨"ClothSchoolModel", "colourOf", "(IIII)I"⟩, 72), (⟨"ClothSchoolModel", "allPins", "()I"⟩, 72), (⟨"ClothSchoolModel", "strengthOf", "(IZ)I"⟩, 72), (⟨"ClothSchoolModel", "upon", "(IIZ)I"⟩, 72), (⟨"ClothSchoolModel", "pullOf", "(IIZ)I"⟩, 72), (⟨"ClothSchoolModel", "hasLayers", "(I)Z"⟩, 72), (⟨"ClothSchoolModel", "does", "(IIII)Z"⟩, 72), (⟨"ClothSchoolModel", "paints", "(IIIIII)V"⟩, 72), (⟨"ClothSchoolModel", "isLike", "(I)Z"⟩, 72), (⟨"ClothSchoolModel", "ofCloth", "(II)I"⟩, 72)]
theorem lw_r5 : ∀ q ∈ lw_privs_5, lw_okq q := List.forall_mem_cons.mpr ⟨lw_p64, List.forall_mem_cons.mpr ⟨lw_p65, List.forall_mem_cons.mpr ⟨lw_p66, List.forall_mem_cons.mpr ⟨lw_p67, List.forall_mem_cons.mpr ⟨lw_p68, List.forall_mem_cons.mpr ⟨lw_p69, List.forall_mem_cons.mpr ⟨lw_p70, List.forall_mem_cons.mpr ⟨lw_p71, List.forall_mem_cons.mpr ⟨lw_p72, List.forall_mem_cons.mpr ⟨lw_p73, List.forall_mem_cons.mpr ⟨lw_p74, List.forall_mem_cons.mpr ⟨lw_p75, List.forall_mem_cons.mpr ⟨lw_p76, fun _ h => absurd h List.not_mem_nil⟩⟩⟩⟩⟩⟩⟩⟩⟩⟩⟩⟩⟩
def lw_privs : List (MethodName × Nat) := lw_privs_1 ++ (lw_privs_2 ++ (lw_privs_3 ++ (lw_privs_4 ++ (lw_privs_5))))
def lw_tbl : List Cond := k2_sels lw_privs ++ tables_1
theorem lw_privs_ok : ∀ q ∈ lw_privs, lw_okq q := by
  show ∀ q ∈ lw_privs_1 ++ (lw_privs_2 ++ (lw_privs_3 ++ (lw_privs_4 ++ (lw_privs_5)))), lw_okq q
  exact List.forall_mem_append.mpr ⟨lw_r1, List.forall_mem_append.mpr ⟨lw_r2, List.forall_mem_append.mpr ⟨lw_r3, List.forall_mem_append.mpr ⟨lw_r4, lw_r5⟩⟩⟩⟩
-- ===== end of PART A; then your names; then what follows =====
def RX0 : String := "ClothSchool$Cloth"
def TX0 : u_T := fun k => match k with
  | 0 => ("ClothSchool$Cloth", "length", "I", true)
  | 1 => ("ClothSchool$Cloth", "height", "I", true)
  | 2 => ("ClothSchool$Cloth", "colours", "[I", true)
  | _ => ("ClothSchool$Cloth", "endCells", "I", false)
def tyX0 : Nat → FieldType := fun k => match k with
  | 0 => .int
  | 1 => .int
  | 2 => .array .int
  | _ => .int
abbrev wsX00 : List Cond := u_ws RX0 TX0 4
theorem nmX0 : ∀ a, a < 4 → ∀ b, b < 4 → a ≠ b → (TX0 a).2.1 ≠ (TX0 b).2.1 := by decide +kernel
theorem tyX0_ok : ∀ k, k < 4 → parseFieldDescriptor (TX0 k).2.2.1 = some (tyX0 k) := by decide +kernel
abbrev cX0_init : ByteArray := prog_2_method_1_code
def yX0_init : MethodName := ⟨RX0, "<init>", "(II)V"⟩
abbrev cX0_shown : ByteArray := prog_2_method_2_code
def yX0_shown : MethodName := ⟨RX0, "shown", "(III)I"⟩
abbrev cX0_told : ByteArray := prog_2_method_3_code
def yX0_told : MethodName := ⟨RX0, "told", "(I)I"⟩
def RX1 : String := "ClothSchool$Drape"
def TX1 : u_T := fun k => match k with
  | 0 => ("ClothSchool$Drape", "laid", "LClothSchool$Layers;", true)
  | 1 => ("ClothSchool$Drape", "girths", "[I", true)
  | 2 => ("ClothSchool$Drape", "length", "I", false)
  | 3 => ("ClothSchool$Drape", "height", "I", false)
  | 4 => ("ClothSchool$Drape", "cell", "I", false)
  | 5 => ("ClothSchool$Drape", "ring", "I", false)
  | 6 => ("ClothSchool$Drape", "sector", "I", false)
  | 7 => ("ClothSchool$Drape", "way", "I", false)
  | 8 => ("ClothSchool$Drape", "side", "I", false)
  | 9 => ("ClothSchool$Drape", "acts", "I", false)
  | 10 => ("ClothSchool$Drape", "pins", "I", false)
  | 11 => ("ClothSchool$Drape", "hung", "Z", false)
  | 12 => ("ClothSchool$Drape", "fall", "I", false)
  | 13 => ("ClothSchool$Drape", "notLaid", "I", false)
  | 14 => ("ClothSchool$Drape", "why", "I", false)
  | _ => ("ClothSchool$Drape", "brokenStep", "I", false)
def tyX1 : Nat → FieldType := fun k => match k with
  | 0 => .object "ClothSchool$Layers"
  | 1 => .array .int
  | 2 => .int
  | 3 => .int
  | 4 => .int
  | 5 => .int
  | 6 => .int
  | 7 => .int
  | 8 => .int
  | 9 => .int
  | 10 => .int
  | 11 => .boolean
  | 12 => .int
  | 13 => .int
  | 14 => .int
  | _ => .int
abbrev wsX10 : List Cond := u_ws RX1 TX1 16
theorem nmX1 : ∀ a, a < 16 → ∀ b, b < 16 → a ≠ b → (TX1 a).2.1 ≠ (TX1 b).2.1 := by decide +kernel
theorem tyX1_ok : ∀ k, k < 16 → parseFieldDescriptor (TX1 k).2.2.1 = some (tyX1 k) := by decide +kernel
abbrev cX1_init : ByteArray := prog_3_method_1_code
def yX1_init : MethodName := ⟨RX1, "<init>", "()V"⟩
abbrev cX1_begin : ByteArray := prog_3_method_2_code
def yX1_begin : MethodName := ⟨RX1, "begin", "([IIII)V"⟩
abbrev cX1_goTo : ByteArray := prog_3_method_3_code
def yX1_goTo : MethodName := ⟨RX1, "goTo", "(III)V"⟩
abbrev cX1_left : ByteArray := prog_3_method_4_code
def yX1_left : MethodName := ⟨RX1, "left", "()I"⟩
abbrev cX1_width : ByteArray := prog_3_method_5_code
def yX1_width : MethodName := ⟨RX1, "width", "()I"⟩
abbrev cX1_isNumber : ByteArray := prog_3_method_6_code
def yX1_isNumber : MethodName := ⟨RX1, "isNumber", "(I)Z"⟩
abbrev cX1_wind : ByteArray := prog_3_method_7_code
def yX1_wind : MethodName := ⟨RX1, "wind", "(I)I"⟩
abbrev cX1_pleat : ByteArray := prog_3_method_8_code
def yX1_pleat : MethodName := ⟨RX1, "pleat", "(II)I"⟩
abbrev cX1_tuck : ByteArray := prog_3_method_9_code
def yX1_tuck : MethodName := ⟨RX1, "tuck", "()I"⟩
abbrev cX1_climb : ByteArray := prog_3_method_10_code
def yX1_climb : MethodName := ⟨RX1, "climb", "(II)I"⟩
abbrev cX1_turn : ByteArray := prog_3_method_11_code
def yX1_turn : MethodName := ⟨RX1, "turn", "()I"⟩
abbrev cX1_flip : ByteArray := prog_3_method_12_code
def yX1_flip : MethodName := ⟨RX1, "flip", "()I"⟩
abbrev cX1_cross : ByteArray := prog_3_method_13_code
def yX1_cross : MethodName := ⟨RX1, "cross", "()I"⟩
abbrev cX1_hang : ByteArray := prog_3_method_14_code
def yX1_hang : MethodName := ⟨RX1, "hang", "(I)I"⟩
abbrev cX1_told : ByteArray := prog_3_method_15_code
def yX1_told : MethodName := ⟨RX1, "told", "(I)I"⟩
def RX2 : String := "ClothSchool$Hand"
def TX2 : u_T := fun k => match k with
  | 0 => ("ClothSchool$Hand", "pile", "[I", true)
  | 1 => ("ClothSchool$Hand", "high", "I", false)
  | 2 => ("ClothSchool$Hand", "again", "[I", true)
  | 3 => ("ClothSchool$Hand", "backTo", "[I", true)
  | 4 => ("ClothSchool$Hand", "rows", "I", false)
  | 5 => ("ClothSchool$Hand", "names", "[I", true)
  | 6 => ("ClothSchool$Hand", "marks", "[I", false)
  | 7 => ("ClothSchool$Hand", "next", "I", false)
  | 8 => ("ClothSchool$Hand", "step", "I", false)
  | _ => ("ClothSchool$Hand", "askedLeft", "Z", false)
def tyX2 : Nat → FieldType := fun k => match k with
  | 0 => .array .int
  | 1 => .int
  | 2 => .array .int
  | 3 => .array .int
  | 4 => .int
  | 5 => .array .int
  | 6 => .array .int
  | 7 => .int
  | 8 => .int
  | _ => .boolean
abbrev wsX20 : List Cond := u_ws RX2 TX2 10
theorem nmX2 : ∀ a, a < 10 → ∀ b, b < 10 → a ≠ b → (TX2 a).2.1 ≠ (TX2 b).2.1 := by decide +kernel
theorem tyX2_ok : ∀ k, k < 10 → parseFieldDescriptor (TX2 k).2.2.1 = some (tyX2 k) := by decide +kernel
abbrev cX2_init : ByteArray := prog_4_method_1_code
def yX2_init : MethodName := ⟨RX2, "<init>", "()V"⟩
abbrev cX2_work : ByteArray := prog_4_method_2_code
def yX2_work : MethodName := ⟨RX2, "work", "(LClothSchool$Style;LClothSchool$Drape;I)V"⟩
abbrev cX2_obey : ByteArray := prog_4_method_3_code
def yX2_obey : MethodName := ⟨RX2, "obey", "(ILClothSchool$Drape;)I"⟩
abbrev cX2_act : ByteArray := prog_4_method_4_code
def yX2_act : MethodName := ⟨RX2, "act", "(ILClothSchool$Drape;)I"⟩
abbrev cX2_pleat : ByteArray := prog_4_method_5_code
def yX2_pleat : MethodName := ⟨RX2, "pleat", "(LClothSchool$Drape;)I"⟩
abbrev cX2_valueOf : ByteArray := prog_4_method_6_code
def yX2_valueOf : MethodName := ⟨RX2, "valueOf", "(ILClothSchool$Drape;)I"⟩
abbrev cX2_name : ByteArray := prog_4_method_7_code
def yX2_name : MethodName := ⟨RX2, "name", "(I)I"⟩
abbrev cX2_reckon : ByteArray := prog_4_method_8_code
def yX2_reckon : MethodName := ⟨RX2, "reckon", "(I)I"⟩
abbrev cX2_beginRow : ByteArray := prog_4_method_9_code
def yX2_beginRow : MethodName := ⟨RX2, "beginRow", "()I"⟩
abbrev cX2_endOfRow : ByteArray := prog_4_method_10_code
def yX2_endOfRow : MethodName := ⟨RX2, "endOfRow", "()I"⟩
abbrev cX2_push : ByteArray := prog_4_method_11_code
def yX2_push : MethodName := ⟨RX2, "push", "(I)I"⟩
abbrev cX2_pop : ByteArray := prog_4_method_12_code
def yX2_pop : MethodName := ⟨RX2, "pop", "()I"⟩
def RX3 : String := "ClothSchool$Holding"
def TX3 : u_T := fun k => match k with
  | 0 => ("ClothSchool$Holding", "stretches", "[I", true)
  | 1 => ("ClothSchool$Holding", "moves", "I", false)
  | 2 => ("ClothSchool$Holding", "gone", "[Z", true)
  | 3 => ("ClothSchool$Holding", "slipped", "[I", true)
  | 4 => ("ClothSchool$Holding", "slips", "I", false)
  | _ => ("ClothSchool$Holding", "upon", "[I", true)
def tyX3 : Nat → FieldType := fun k => match k with
  | 0 => .array .int
  | 1 => .int
  | 2 => .array .boolean
  | 3 => .array .int
  | 4 => .int
  | _ => .array .int
abbrev wsX30 : List Cond := u_ws RX3 TX3 6
theorem nmX3 : ∀ a, a < 6 → ∀ b, b < 6 → a ≠ b → (TX3 a).2.1 ≠ (TX3 b).2.1 := by decide +kernel
theorem tyX3_ok : ∀ k, k < 6 → parseFieldDescriptor (TX3 k).2.2.1 = some (tyX3 k) := by decide +kernel
abbrev cX3_init : ByteArray := prog_5_method_1_code
def yX3_init : MethodName := ⟨RX3, "<init>", "()V"⟩
abbrev cX3_forget : ByteArray := prog_5_method_2_code
def yX3_forget : MethodName := ⟨RX3, "forget", "()V"⟩
abbrev cX3_add : ByteArray := prog_5_method_3_code
def yX3_add : MethodName := ⟨RX3, "add", "([II)V"⟩
abbrev cX3_strengthOf : ByteArray := prog_5_method_4_code
def yX3_strengthOf : MethodName := ⟨RX3, "strengthOf", "(LClothSchool$Layers;I)I"⟩
abbrev cX3_play : ByteArray := prog_5_method_5_code
def yX3_play : MethodName := ⟨RX3, "play", "(LClothSchool$Layers;I)I"⟩
abbrev cX3_doMove : ByteArray := prog_5_method_6_code
def yX3_doMove : MethodName := ⟨RX3, "doMove", "(LClothSchool$Layers;II)V"⟩
abbrev cX3_slip : ByteArray := prog_5_method_7_code
def yX3_slip : MethodName := ⟨RX3, "slip", "(III)V"⟩
abbrev cX3_lastLeft : ByteArray := prog_5_method_8_code
def yX3_lastLeft : MethodName := ⟨RX3, "lastLeft", "(LClothSchool$Layers;II)I"⟩
abbrev cX3_fixedBy : ByteArray := prog_5_method_9_code
def yX3_fixedBy : MethodName := ⟨RX3, "fixedBy", "(LClothSchool$Layers;)I"⟩
def RX4 : String := "ClothSchool$Layers"
def TX4 : u_T := fun k => match k with
  | 0 => ("ClothSchool$Layers", "acts", "[I", true)
  | 1 => ("ClothSchool$Layers", "lows", "[I", true)
  | 2 => ("ClothSchool$Layers", "sectors", "[I", true)
  | 3 => ("ClothSchool$Layers", "firstCells", "[I", true)
  | 4 => ("ClothSchool$Layers", "cells", "[I", true)
  | 5 => ("ClothSchool$Layers", "rows", "[I", true)
  | 6 => ("ClothSchool$Layers", "sides", "[I", true)
  | 7 => ("ClothSchool$Layers", "pins", "[I", true)
  | _ => ("ClothSchool$Layers", "size", "I", false)
def tyX4 : Nat → FieldType := fun k => match k with
  | 0 => .array .int
  | 1 => .array .int
  | 2 => .array .int
  | 3 => .array .int
  | 4 => .array .int
  | 5 => .array .int
  | 6 => .array .int
  | 7 => .array .int
  | _ => .int
abbrev wsX40 : List Cond := u_ws RX4 TX4 9
theorem nmX4 : ∀ a, a < 9 → ∀ b, b < 9 → a ≠ b → (TX4 a).2.1 ≠ (TX4 b).2.1 := by decide +kernel
theorem tyX4_ok : ∀ k, k < 9 → parseFieldDescriptor (TX4 k).2.2.1 = some (tyX4 k) := by decide +kernel
abbrev cX4_init : ByteArray := prog_6_method_1_code
def yX4_init : MethodName := ⟨RX4, "<init>", "()V"⟩
abbrev cX4_add : ByteArray := prog_6_method_2_code
def yX4_add : MethodName := ⟨RX4, "add", "(IIIIIII)V"⟩
abbrev cX4_has : ByteArray := prog_6_method_3_code
def yX4_has : MethodName := ⟨RX4, "has", "(I)Z"⟩
abbrev cX4_tuckLast : ByteArray := prog_6_method_4_code
def yX4_tuckLast : MethodName := ⟨RX4, "tuckLast", "()Z"⟩
abbrev cX4_told : ByteArray := prog_6_method_5_code
def yX4_told : MethodName := ⟨RX4, "told", "(II)I"⟩
abbrev cX4_lies : ByteArray := prog_6_method_6_code
def yX4_lies : MethodName := ⟨RX4, "lies", "(III)Z"⟩
abbrev cX4_last : ByteArray := prog_6_method_7_code
def yX4_last : MethodName := ⟨RX4, "last", "(II)I"⟩
abbrev cX4_howMany : ByteArray := prog_6_method_8_code
def yX4_howMany : MethodName := ⟨RX4, "howMany", "(II)I"⟩
abbrev cX4_shown : ByteArray := prog_6_method_9_code
def yX4_shown : MethodName := ⟨RX4, "shown", "(IILClothSchool$Cloth;)I"⟩
abbrev cX4_actOf : ByteArray := prog_6_method_10_code
def yX4_actOf : MethodName := ⟨RX4, "actOf", "(I)I"⟩
abbrev cX4_lowOf : ByteArray := prog_6_method_11_code
def yX4_lowOf : MethodName := ⟨RX4, "lowOf", "(I)I"⟩
abbrev cX4_topOf : ByteArray := prog_6_method_12_code
def yX4_topOf : MethodName := ⟨RX4, "topOf", "(I)I"⟩
abbrev cX4_place : ByteArray := prog_6_method_13_code
def yX4_place : MethodName := ⟨RX4, "place", "(II)I"⟩
abbrev cX4_lastOf : ByteArray := prog_6_method_14_code
def yX4_lastOf : MethodName := ⟨RX4, "lastOf", "(I)I"⟩
abbrev cX4_firstWith : ByteArray := prog_6_method_15_code
def yX4_firstWith : MethodName := ⟨RX4, "firstWith", "(I)I"⟩
abbrev cX4_pulled : ByteArray := prog_6_method_16_code
def yX4_pulled : MethodName := ⟨RX4, "pulled", "(II[II)I"⟩
abbrev cX4_held : ByteArray := prog_6_method_17_code
def yX4_held : MethodName := ⟨RX4, "held", "(II[I)I"⟩
abbrev cX4_heap : ByteArray := prog_6_method_18_code
def yX4_heap : MethodName := ⟨RX4, "heap", "(II[I)V"⟩
def RX5 : String := "ClothSchool$Picture"
def TX5 : u_T := fun k => match k with
  | 0 => ("ClothSchool$Picture", "wanted", "[I", true)
  | 1 => ("ClothSchool$Picture", "seen", "[I", true)
  | 2 => ("ClothSchool$Picture", "differ", "I", false)
  | 3 => ("ClothSchool$Picture", "paintedPlace", "[I", true)
  | 4 => ("ClothSchool$Picture", "paintedOver", "[I", true)
  | 5 => ("ClothSchool$Picture", "painted", "I", false)
  | 6 => ("ClothSchool$Picture", "row", "[I", true)
  | 7 => ("ClothSchool$Picture", "found", "I", false)
  | 8 => ("ClothSchool$Picture", "first", "[I", true)
  | _ => ("ClothSchool$Picture", "firstActs", "I", false)
def tyX5 : Nat → FieldType := fun k => match k with
  | 0 => .array .int
  | 1 => .array .int
  | 2 => .int
  | 3 => .array .int
  | 4 => .array .int
  | 5 => .int
  | 6 => .array .int
  | 7 => .int
  | 8 => .array .int
  | _ => .int
abbrev wsX50 : List Cond := u_ws RX5 TX5 10
theorem nmX5 : ∀ a, a < 10 → ∀ b, b < 10 → a ≠ b → (TX5 a).2.1 ≠ (TX5 b).2.1 := by decide +kernel
theorem tyX5_ok : ∀ k, k < 10 → parseFieldDescriptor (TX5 k).2.2.1 = some (tyX5 k) := by decide +kernel
abbrev cX5_init : ByteArray := prog_7_method_1_code
def yX5_init : MethodName := ⟨RX5, "<init>", "()V"⟩
abbrev cX5_take : ByteArray := prog_7_method_2_code
def yX5_take : MethodName := ⟨RX5, "take", "([I)Z"⟩
abbrev cX5_search : ByteArray := prog_7_method_3_code
def yX5_search : MethodName := ⟨RX5, "search", "(LClothSchool$Drape;LClothSchool$Cloth;)I"⟩
abbrev cX5_tryFrom : ByteArray := prog_7_method_4_code
def yX5_tryFrom : MethodName := ⟨RX5, "tryFrom", "(ILClothSchool$Drape;LClothSchool$Cloth;)V"⟩
abbrev cX5_perform : ByteArray := prog_7_method_5_code
def yX5_perform : MethodName := ⟨RX5, "perform", "(ILClothSchool$Drape;)I"⟩
abbrev cX5_keepIfShown : ByteArray := prog_7_method_6_code
def yX5_keepIfShown : MethodName := ⟨RX5, "keepIfShown", "(I)V"⟩
abbrev cX5_isOff : ByteArray := prog_7_method_7_code
def yX5_isOff : MethodName := ⟨RX5, "isOff", "(I)Z"⟩
abbrev cX5_see : ByteArray := prog_7_method_8_code
def yX5_see : MethodName := ⟨RX5, "see", "(II)V"⟩
abbrev cX5_paint : ByteArray := prog_7_method_9_code
def yX5_paint : MethodName := ⟨RX5, "paint", "(LClothSchool$Layers;ILClothSchool$Cloth;)V"⟩
abbrev cX5_unpaint : ByteArray := prog_7_method_10_code
def yX5_unpaint : MethodName := ⟨RX5, "unpaint", "(I)V"⟩
def RX6 : String := "ClothSchool$Scribe"
def TX6 : u_T := fun k => match k with
  | 0 => ("ClothSchool$Scribe", "text", "[I", true)
  | 1 => ("ClothSchool$Scribe", "length", "I", false)
  | 2 => ("ClothSchool$Scribe", "at", "I", false)
  | 3 => ("ClothSchool$Scribe", "marks", "[I", true)
  | 4 => ("ClothSchool$Scribe", "size", "I", false)
  | 5 => ("ClothSchool$Scribe", "letters", "I", false)
  | 6 => ("ClothSchool$Scribe", "fault", "I", false)
  | _ => ("ClothSchool$Scribe", "place", "I", false)
def tyX6 : Nat → FieldType := fun k => match k with
  | 0 => .array .int
  | 1 => .int
  | 2 => .int
  | 3 => .array .int
  | 4 => .int
  | 5 => .int
  | 6 => .int
  | _ => .int
abbrev wsX60 : List Cond := u_ws RX6 TX6 8
theorem nmX6 : ∀ a, a < 8 → ∀ b, b < 8 → a ≠ b → (TX6 a).2.1 ≠ (TX6 b).2.1 := by decide +kernel
theorem tyX6_ok : ∀ k, k < 8 → parseFieldDescriptor (TX6 k).2.2.1 = some (tyX6 k) := by decide +kernel
abbrev cX6_init : ByteArray := prog_8_method_1_code
def yX6_init : MethodName := ⟨RX6, "<init>", "()V"⟩
abbrev cX6_write : ByteArray := prog_8_method_2_code
def yX6_write : MethodName := ⟨RX6, "write", "([II)LClothSchool$Style;"⟩
abbrev cX6_sign : ByteArray := prog_8_method_3_code
def yX6_sign : MethodName := ⟨RX6, "sign", "()I"⟩
abbrev cX6_blame : ByteArray := prog_8_method_4_code
def yX6_blame : MethodName := ⟨RX6, "blame", "(I)V"⟩
abbrev cX6_put : ByteArray := prog_8_method_5_code
def yX6_put : MethodName := ⟨RX6, "put", "(I)V"⟩
abbrev cX6_pass : ByteArray := prog_8_method_6_code
def yX6_pass : MethodName := ⟨RX6, "pass", "(I)V"⟩
abbrev cX6_steps : ByteArray := prog_8_method_7_code
def yX6_steps : MethodName := ⟨RX6, "steps", "(I)V"⟩
abbrev cX6_step : ByteArray := prog_8_method_8_code
def yX6_step : MethodName := ⟨RX6, "step", "(I)V"⟩
abbrev cX6_restOfStep : ByteArray := prog_8_method_9_code
def yX6_restOfStep : MethodName := ⟨RX6, "restOfStep", "(II)V"⟩
abbrev cX6_restOfRow : ByteArray := prog_8_method_10_code
def yX6_restOfRow : MethodName := ⟨RX6, "restOfRow", "(I)V"⟩
abbrev cX6_sum : ByteArray := prog_8_method_11_code
def yX6_sum : MethodName := ⟨RX6, "sum", "(I)V"⟩
abbrev cX6_product : ByteArray := prog_8_method_12_code
def yX6_product : MethodName := ⟨RX6, "product", "(I)V"⟩
abbrev cX6_factor : ByteArray := prog_8_method_13_code
def yX6_factor : MethodName := ⟨RX6, "factor", "(I)V"⟩
abbrev cX6_number : ByteArray := prog_8_method_14_code
def yX6_number : MethodName := ⟨RX6, "number", "()V"⟩
abbrev cX6_isDigit : ByteArray := prog_8_method_15_code
def yX6_isDigit : MethodName := ⟨RX6, "isDigit", "(I)Z"⟩
abbrev cX6_isLetterOfStep : ByteArray := prog_8_method_16_code
def yX6_isLetterOfStep : MethodName := ⟨RX6, "isLetterOfStep", "(I)Z"⟩
abbrev cX6_isLetterOfFactor : ByteArray := prog_8_method_17_code
def yX6_isLetterOfFactor : MethodName := ⟨RX6, "isLetterOfFactor", "(I)Z"⟩
def RX7 : String := "ClothSchool$Style"
def TX7 : u_T := fun k => match k with
  | 0 => ("ClothSchool$Style", "marks", "[I", true)
  | _ => ("ClothSchool$Style", "letters", "I", true)
def tyX7 : Nat → FieldType := fun k => match k with
  | 0 => .array .int
  | _ => .int
abbrev wsX70 : List Cond := u_ws RX7 TX7 2
theorem nmX7 : ∀ a, a < 2 → ∀ b, b < 2 → a ≠ b → (TX7 a).2.1 ≠ (TX7 b).2.1 := by decide +kernel
theorem tyX7_ok : ∀ k, k < 2 → parseFieldDescriptor (TX7 k).2.2.1 = some (tyX7 k) := by decide +kernel
abbrev cX7_init : ByteArray := prog_9_method_1_code
def yX7_init : MethodName := ⟨RX7, "<init>", "([II)V"⟩
def RX8 : String := "ClothSchool"
def TX8 : u_T := fun k => match k with
  | 0 => ("ClothSchool", "widths", "[I", true)
  | 1 => ("ClothSchool", "bodies", "I", false)
  | 2 => ("ClothSchool", "cloths", "[LClothSchool$Cloth;", true)
  | 3 => ("ClothSchool", "clothsMade", "I", false)
  | 4 => ("ClothSchool", "styles", "[LClothSchool$Style;", true)
  | 5 => ("ClothSchool", "stylesMade", "I", false)
  | 6 => ("ClothSchool", "tape", "[I", true)
  | 7 => ("ClothSchool", "taped", "I", false)
  | 8 => ("ClothSchool", "stretches", "[I", true)
  | 9 => ("ClothSchool", "scribe", "LClothSchool$Scribe;", true)
  | 10 => ("ClothSchool", "hand", "LClothSchool$Hand;", true)
  | 11 => ("ClothSchool", "draped", "LClothSchool$Drape;", true)
  | 12 => ("ClothSchool", "trial", "LClothSchool$Drape;", true)
  | 13 => ("ClothSchool", "holding", "LClothSchool$Holding;", true)
  | 14 => ("ClothSchool", "picture", "LClothSchool$Picture;", true)
  | _ => ("ClothSchool", "worn", "LClothSchool$Cloth;", false)
def tyX8 : Nat → FieldType := fun k => match k with
  | 0 => .array .int
  | 1 => .int
  | 2 => .array (.object "ClothSchool$Cloth")
  | 3 => .int
  | 4 => .array (.object "ClothSchool$Style")
  | 5 => .int
  | 6 => .array .int
  | 7 => .int
  | 8 => .array .int
  | 9 => .object "ClothSchool$Scribe"
  | 10 => .object "ClothSchool$Hand"
  | 11 => .object "ClothSchool$Drape"
  | 12 => .object "ClothSchool$Drape"
  | 13 => .object "ClothSchool$Holding"
  | 14 => .object "ClothSchool$Picture"
  | _ => .object "ClothSchool$Cloth"
abbrev wsX80 : List Cond := u_ws RX8 TX8 16
theorem nmX8 : ∀ a, a < 16 → ∀ b, b < 16 → a ≠ b → (TX8 a).2.1 ≠ (TX8 b).2.1 := by decide +kernel
theorem tyX8_ok : ∀ k, k < 16 → parseFieldDescriptor (TX8 k).2.2.1 = some (tyX8 k) := by decide +kernel
abbrev cX8_init : ByteArray := prog_1_method_1_code
def yX8_init : MethodName := ⟨RX8, "<init>", "()V"⟩
abbrev cX8_body : ByteArray := prog_1_method_2_code
def yX8_body : MethodName := ⟨RX8, "body", "(IIIIIIII)I"⟩
abbrev cX8_cloth : ByteArray := prog_1_method_3_code
def yX8_cloth : MethodName := ⟨RX8, "cloth", "(II)I"⟩
abbrev cX8_colour : ByteArray := prog_1_method_4_code
def yX8_colour : MethodName := ⟨RX8, "colour", "(III)Z"⟩
abbrev cX8_end : ByteArray := prog_1_method_5_code
def yX8_end : MethodName := ⟨RX8, "end", "(II)Z"⟩
abbrev cX8_feed : ByteArray := prog_1_method_6_code
def yX8_feed : MethodName := ⟨RX8, "feed", "(IIIII)I"⟩
abbrev cX8_style : ByteArray := prog_1_method_7_code
def yX8_style : MethodName := ⟨RX8, "style", "(I)I"⟩
abbrev cX8_drape : ByteArray := prog_1_method_8_code
def yX8_drape : MethodName := ⟨RX8, "drape", "(IIII)I"⟩
abbrev cX8_shows : ByteArray := prog_1_method_9_code
def yX8_shows : MethodName := ⟨RX8, "shows", "(II)I"⟩
abbrev cX8_layers : ByteArray := prog_1_method_10_code
def yX8_layers : MethodName := ⟨RX8, "layers", "(II)I"⟩
abbrev cX8_layer : ByteArray := prog_1_method_11_code
def yX8_layer : MethodName := ⟨RX8, "layer", "(II)I"⟩
abbrev cX8_look : ByteArray := prog_1_method_12_code
def yX8_look : MethodName := ⟨RX8, "look", "(I)I"⟩
abbrev cX8_strength : ByteArray := prog_1_method_13_code
def yX8_strength : MethodName := ⟨RX8, "strength", "(I)I"⟩
abbrev cX8_stretch : ByteArray := prog_1_method_14_code
def yX8_stretch : MethodName := ⟨RX8, "stretch", "(III)Z"⟩
abbrev cX8_pull : ByteArray := prog_1_method_15_code
def yX8_pull : MethodName := ⟨RX8, "pull", "(II)I"⟩
abbrev cX8_moves : ByteArray := prog_1_method_16_code
def yX8_moves : MethodName := ⟨RX8, "moves", "(I)I"⟩
abbrev cX8_slipped : ByteArray := prog_1_method_17_code
def yX8_slipped : MethodName := ⟨RX8, "slipped", "(I)I"⟩
abbrev cX8_after : ByteArray := prog_1_method_18_code
def yX8_after : MethodName := ⟨RX8, "after", "(II)I"⟩
abbrev cX8_fix : ByteArray := prog_1_method_19_code
def yX8_fix : MethodName := ⟨RX8, "fix", "()I"⟩
abbrev cX8_breaths : ByteArray := prog_1_method_20_code
def yX8_breaths : MethodName := ⟨RX8, "breaths", "()I"⟩
abbrev cX8_shortest : ByteArray := prog_1_method_21_code
def yX8_shortest : MethodName := ⟨RX8, "shortest", "(IIII)I"⟩
abbrev cX8_solve : ByteArray := prog_1_method_22_code
def yX8_solve : MethodName := ⟨RX8, "solve", "(IIIII)I"⟩
abbrev cX8_read : ByteArray := prog_1_method_23_code
def yX8_read : MethodName := ⟨RX8, "read", "(II)I"⟩
abbrev cX8_wrote : ByteArray := prog_1_method_24_code
def yX8_wrote : MethodName := ⟨RX8, "wrote", "(I)I"⟩
abbrev cX8_count : ByteArray := prog_1_method_25_code
def yX8_count : MethodName := ⟨RX8, "count", "(I)I"⟩
abbrev cX8_within : ByteArray := prog_1_method_26_code
def yX8_within : MethodName := ⟨RX8, "within", "(II)Z"⟩
abbrev cX8_isWidth : ByteArray := prog_1_method_27_code
def yX8_isWidth : MethodName := ⟨RX8, "isWidth", "(I)Z"⟩
abbrev cX8_isHeight : ByteArray := prog_1_method_28_code
def yX8_isHeight : MethodName := ⟨RX8, "isHeight", "(I)Z"⟩
abbrev cX8_isPlace : ByteArray := prog_1_method_29_code
def yX8_isPlace : MethodName := ⟨RX8, "isPlace", "(II)Z"⟩
abbrev cX8_setWidth : ByteArray := prog_1_method_30_code
def yX8_setWidth : MethodName := ⟨RX8, "setWidth", "(II)V"⟩
abbrev cX8_clothAt : ByteArray := prog_1_method_31_code
def yX8_clothAt : MethodName := ⟨RX8, "clothAt", "(I)LClothSchool$Cloth;"⟩
abbrev cX8_styleAt : ByteArray := prog_1_method_32_code
def yX8_styleAt : MethodName := ⟨RX8, "styleAt", "(I)LClothSchool$Style;"⟩
abbrev cX8_putOnTape : ByteArray := prog_1_method_33_code
def yX8_putOnTape : MethodName := ⟨RX8, "putOnTape", "(I)V"⟩
abbrev cX8_allWithin : ByteArray := prog_1_method_34_code
def yX8_allWithin : MethodName := ⟨RX8, "allWithin", "(II)Z"⟩
def RX9 : String := "ClothSchoolModel"
def TX9 : u_T := fun k => match k with
  | 0 => ("ClothSchoolModel", "tape", "[B", true)
  | 1 => ("ClothSchoolModel", "taped", "I", false)
  | 2 => ("ClothSchoolModel", "bodies", "I", false)
  | 3 => ("ClothSchoolModel", "cloths", "I", false)
  | 4 => ("ClothSchoolModel", "styles", "I", false)
  | 5 => ("ClothSchoolModel", "width", "[I", true)
  | 6 => ("ClothSchoolModel", "cLength", "[I", true)
  | 7 => ("ClothSchoolModel", "cHeight", "[I", true)
  | 8 => ("ClothSchoolModel", "cEnd", "[I", true)
  | 9 => ("ClothSchoolModel", "cColour", "[I", true)
  | 10 => ("ClothSchoolModel", "text", "[B", true)
  | 11 => ("ClothSchoolModel", "size", "[I", true)
  | 12 => ("ClothSchoolModel", "letters", "[I", true)
  | 13 => ("ClothSchoolModel", "at", "I", false)
  | 14 => ("ClothSchoolModel", "to", "I", false)
  | 15 => ("ClothSchoolModel", "bad", "I", false)
  | 16 => ("ClothSchoolModel", "base", "I", false)
  | 17 => ("ClothSchoolModel", "lAct", "[I", true)
  | 18 => ("ClothSchoolModel", "lRing", "[I", true)
  | 19 => ("ClothSchoolModel", "lSector", "[I", true)
  | 20 => ("ClothSchoolModel", "lFirst", "[I", true)
  | 21 => ("ClothSchoolModel", "lCells", "[I", true)
  | 22 => ("ClothSchoolModel", "lRows", "[I", true)
  | 23 => ("ClothSchoolModel", "lSide", "[I", true)
  | 24 => ("ClothSchoolModel", "pins", "[I", true)
  | 25 => ("ClothSchoolModel", "used", "[I", true)
  | 26 => ("ClothSchoolModel", "acts", "[I", true)
  | 27 => ("ClothSchoolModel", "layers", "[I", true)
  | 28 => ("ClothSchoolModel", "ring", "[I", true)
  | 29 => ("ClothSchoolModel", "sector", "[I", true)
  | 30 => ("ClothSchoolModel", "way", "[I", true)
  | 31 => ("ClothSchoolModel", "side", "[I", true)
  | 32 => ("ClothSchoolModel", "fall", "[I", true)
  | 33 => ("ClothSchoolModel", "wasted", "[I", true)
  | 34 => ("ClothSchoolModel", "broke", "[I", true)
  | 35 => ("ClothSchoolModel", "brokeAt", "[I", true)
  | 36 => ("ClothSchoolModel", "w", "I", false)
  | 37 => ("ClothSchoolModel", "body", "I", false)
  | 38 => ("ClothSchoolModel", "length", "I", false)
  | 39 => ("ClothSchoolModel", "height", "I", false)
  | 40 => ("ClothSchoolModel", "begun", "I", false)
  | 41 => ("ClothSchoolModel", "name", "[I", true)
  | 42 => ("ClothSchoolModel", "rowFrom", "[I", true)
  | 43 => ("ClothSchoolModel", "rowLeft", "[I", true)
  | 44 => ("ClothSchoolModel", "rows", "I", false)
  | 45 => ("ClothSchoolModel", "value", "[I", true)
  | 46 => ("ClothSchoolModel", "sign", "[I", true)
  | 47 => ("ClothSchoolModel", "values", "I", false)
  | 48 => ("ClothSchoolModel", "signs", "I", false)
  | 49 => ("ClothSchoolModel", "isDivided", "Z", false)
  | 50 => ("ClothSchoolModel", "hasHung", "Z", false)
  | 51 => ("ClothSchoolModel", "hasDrape", "Z", false)
  | 52 => ("ClothSchoolModel", "hasMoves", "Z", false)
  | 53 => ("ClothSchoolModel", "drapeCloth", "I", false)
  | 54 => ("ClothSchoolModel", "drapeBody", "I", false)
  | 55 => ("ClothSchoolModel", "gone", "[Z", true)
  | 56 => ("ClothSchoolModel", "stretch", "[I", true)
  | 57 => ("ClothSchoolModel", "stretchThen", "[I", true)
  | 58 => ("ClothSchoolModel", "move", "[I", true)
  | 59 => ("ClothSchoolModel", "slip", "[I", true)
  | 60 => ("ClothSchoolModel", "moveMany", "I", false)
  | 61 => ("ClothSchoolModel", "slipMany", "I", false)
  | 62 => ("ClothSchoolModel", "grid", "[I", true)
  | 63 => ("ClothSchoolModel", "pUsed", "[I", true)
  | 64 => ("ClothSchoolModel", "pRing", "[I", true)
  | 65 => ("ClothSchoolModel", "pSector", "[I", true)
  | 66 => ("ClothSchoolModel", "pWay", "[I", true)
  | 67 => ("ClothSchoolModel", "pSide", "[I", true)
  | 68 => ("ClothSchoolModel", "turn", "[I", true)
  | 69 => ("ClothSchoolModel", "wrote", "[I", true)
  | 70 => ("ClothSchoolModel", "picture", "[I", true)
  | _ => ("ClothSchoolModel", "wroteMany", "I", false)
def tyX9 : Nat → FieldType := fun k => match k with
  | 0 => .array .byte
  | 1 => .int
  | 2 => .int
  | 3 => .int
  | 4 => .int
  | 5 => .array .int
  | 6 => .array .int
  | 7 => .array .int
  | 8 => .array .int
  | 9 => .array .int
  | 10 => .array .byte
  | 11 => .array .int
  | 12 => .array .int
  | 13 => .int
  | 14 => .int
  | 15 => .int
  | 16 => .int
  | 17 => .array .int
  | 18 => .array .int
  | 19 => .array .int
  | 20 => .array .int
  | 21 => .array .int
  | 22 => .array .int
  | 23 => .array .int
  | 24 => .array .int
  | 25 => .array .int
  | 26 => .array .int
  | 27 => .array .int
  | 28 => .array .int
  | 29 => .array .int
  | 30 => .array .int
  | 31 => .array .int
  | 32 => .array .int
  | 33 => .array .int
  | 34 => .array .int
  | 35 => .array .int
  | 36 => .int
  | 37 => .int
  | 38 => .int
  | 39 => .int
  | 40 => .int
  | 41 => .array .int
  | 42 => .array .int
  | 43 => .array .int
  | 44 => .int
  | 45 => .array .int
  | 46 => .array .int
  | 47 => .int
  | 48 => .int
  | 49 => .boolean
  | 50 => .boolean
  | 51 => .boolean
  | 52 => .boolean
  | 53 => .int
  | 54 => .int
  | 55 => .array .boolean
  | 56 => .array .int
  | 57 => .array .int
  | 58 => .array .int
  | 59 => .array .int
  | 60 => .int
  | 61 => .int
  | 62 => .array .int
  | 63 => .array .int
  | 64 => .array .int
  | 65 => .array .int
  | 66 => .array .int
  | 67 => .array .int
  | 68 => .array .int
  | 69 => .array .int
  | 70 => .array .int
  | _ => .int
abbrev wsX90 : List Cond := u_ws RX9 TX9 72
theorem nmX9 : ∀ a, a < 72 → ∀ b, b < 72 → a ≠ b → (TX9 a).2.1 ≠ (TX9 b).2.1 := by decide +kernel
theorem tyX9_ok : ∀ k, k < 72 → parseFieldDescriptor (TX9 k).2.2.1 = some (tyX9 k) := by decide +kernel
abbrev cX9_init : ByteArray := prog_11_method_1_code
def yX9_init : MethodName := ⟨RX9, "<init>", "()V"⟩
abbrev cX9_lies : ByteArray := prog_11_method_2_code
def yX9_lies : MethodName := ⟨RX9, "lies", "(III)Z"⟩
abbrev cX9_body : ByteArray := prog_11_method_3_code
def yX9_body : MethodName := ⟨RX9, "body", "(IIIIIIII)I"⟩
abbrev cX9_isBody : ByteArray := prog_11_method_4_code
def yX9_isBody : MethodName := ⟨RX9, "isBody", "(I)Z"⟩
abbrev cX9_isCloth : ByteArray := prog_11_method_5_code
def yX9_isCloth : MethodName := ⟨RX9, "isCloth", "(I)Z"⟩
abbrev cX9_isStyle : ByteArray := prog_11_method_6_code
def yX9_isStyle : MethodName := ⟨RX9, "isStyle", "(I)Z"⟩
abbrev cX9_cloth : ByteArray := prog_11_method_7_code
def yX9_cloth : MethodName := ⟨RX9, "cloth", "(II)I"⟩
abbrev cX9_colour : ByteArray := prog_11_method_8_code
def yX9_colour : MethodName := ⟨RX9, "colour", "(III)Z"⟩
abbrev cX9_end : ByteArray := prog_11_method_9_code
def yX9_end : MethodName := ⟨RX9, "end", "(II)Z"⟩
abbrev cX9_push : ByteArray := prog_11_method_10_code
def yX9_push : MethodName := ⟨RX9, "push", "(I)V"⟩
abbrev cX9_feed : ByteArray := prog_11_method_11_code
def yX9_feed : MethodName := ⟨RX9, "feed", "(IIIII)I"⟩
abbrev cX9_here : ByteArray := prog_11_method_12_code
def yX9_here : MethodName := ⟨RX9, "here", "()I"⟩
abbrev cX9_fails : ByteArray := prog_11_method_13_code
def yX9_fails : MethodName := ⟨RX9, "fails", "(I)V"⟩
abbrev cX9_isDigit : ByteArray := prog_11_method_14_code
def yX9_isDigit : MethodName := ⟨RX9, "isDigit", "(I)Z"⟩
abbrev cX9_isName : ByteArray := prog_11_method_15_code
def yX9_isName : MethodName := ⟨RX9, "isName", "(I)Z"⟩
abbrev cX9_isValue : ByteArray := prog_11_method_16_code
def yX9_isValue : MethodName := ⟨RX9, "isValue", "(I)Z"⟩
abbrev cX9_isTimes : ByteArray := prog_11_method_17_code
def yX9_isTimes : MethodName := ⟨RX9, "isTimes", "(I)Z"⟩
abbrev cX9_isSign : ByteArray := prog_11_method_18_code
def yX9_isSign : MethodName := ⟨RX9, "isSign", "(I)Z"⟩
abbrev cX9_isPlain : ByteArray := prog_11_method_19_code
def yX9_isPlain : MethodName := ⟨RX9, "isPlain", "(I)Z"⟩
abbrev cX9_isAct : ByteArray := prog_11_method_20_code
def yX9_isAct : MethodName := ⟨RX9, "isAct", "(I)Z"⟩
abbrev cX9_must : ByteArray := prog_11_method_21_code
def yX9_must : MethodName := ⟨RX9, "must", "(I)V"⟩
abbrev cX9_looksAtNumber : ByteArray := prog_11_method_22_code
def yX9_looksAtNumber : MethodName := ⟨RX9, "looksAtNumber", "()V"⟩
abbrev cX9_looksAtSum : ByteArray := prog_11_method_23_code
def yX9_looksAtSum : MethodName := ⟨RX9, "looksAtSum", "()V"⟩
abbrev cX9_looksAt : ByteArray := prog_11_method_24_code
def yX9_looksAt : MethodName := ⟨RX9, "looksAt", "()I"⟩
abbrev cX9_style : ByteArray := prog_11_method_25_code
def yX9_style : MethodName := ⟨RX9, "style", "(I)I"⟩
abbrev cX9_widthAt : ByteArray := prog_11_method_26_code
def yX9_widthAt : MethodName := ⟨RX9, "widthAt", "(III)I"⟩
abbrev cX9_valueOf : ByteArray := prog_11_method_27_code
def yX9_valueOf : MethodName := ⟨RX9, "valueOf", "(I)I"⟩
abbrev cX9_works : ByteArray := prog_11_method_28_code
def yX9_works : MethodName := ⟨RX9, "works", "()V"⟩
abbrev cX9_bond : ByteArray := prog_11_method_29_code
def yX9_bond : MethodName := ⟨RX9, "bond", "(I)I"⟩
abbrev cX9_sum : ByteArray := prog_11_method_30_code
def yX9_sum : MethodName := ⟨RX9, "sum", "()I"⟩
abbrev cX9_breaks : ByteArray := prog_11_method_31_code
def yX9_breaks : MethodName := ⟨RX9, "breaks", "(I)V"⟩
abbrev cX9_isCount : ByteArray := prog_11_method_32_code
def yX9_isCount : MethodName := ⟨RX9, "isCount", "(I)Z"⟩
abbrev cX9_left : ByteArray := prog_11_method_33_code
def yX9_left : MethodName := ⟨RX9, "left", "()I"⟩
abbrev cX9_lays : ByteArray := prog_11_method_34_code
def yX9_lays : MethodName := ⟨RX9, "lays", "(IIII)V"⟩
abbrev cX9_acted : ByteArray := prog_11_method_35_code
def yX9_acted : MethodName := ⟨RX9, "acted", "()V"⟩
abbrev cX9_wastes : ByteArray := prog_11_method_36_code
def yX9_wastes : MethodName := ⟨RX9, "wastes", "(I)V"⟩
abbrev cX9_winds : ByteArray := prog_11_method_37_code
def yX9_winds : MethodName := ⟨RX9, "winds", "(I)V"⟩
abbrev cX9_pleats : ByteArray := prog_11_method_38_code
def yX9_pleats : MethodName := ⟨RX9, "pleats", "(II)V"⟩
abbrev cX9_climbs : ByteArray := prog_11_method_39_code
def yX9_climbs : MethodName := ⟨RX9, "climbs", "(IZ)V"⟩
abbrev cX9_shoulders : ByteArray := prog_11_method_40_code
def yX9_shoulders : MethodName := ⟨RX9, "shoulders", "()V"⟩
abbrev cX9_hangs : ByteArray := prog_11_method_41_code
def yX9_hangs : MethodName := ⟨RX9, "hangs", "(I)V"⟩
abbrev cX9_tucks : ByteArray := prog_11_method_42_code
def yX9_tucks : MethodName := ⟨RX9, "tucks", "()V"⟩
abbrev cX9_skips : ByteArray := prog_11_method_43_code
def yX9_skips : MethodName := ⟨RX9, "skips", "()V"⟩
abbrev cX9_opens : ByteArray := prog_11_method_44_code
def yX9_opens : MethodName := ⟨RX9, "opens", "(I)V"⟩
abbrev cX9_step : ByteArray := prog_11_method_45_code
def yX9_step : MethodName := ⟨RX9, "step", "()V"⟩
abbrev cX9_goesOn : ByteArray := prog_11_method_46_code
def yX9_goesOn : MethodName := ⟨RX9, "goesOn", "()V"⟩
abbrev cX9_drapes : ByteArray := prog_11_method_47_code
def yX9_drapes : MethodName := ⟨RX9, "drapes", "(IIIIII)V"⟩
abbrev cX9_drape : ByteArray := prog_11_method_48_code
def yX9_drape : MethodName := ⟨RX9, "drape", "(IIII)I"⟩
abbrev cX9_colourOf : ByteArray := prog_11_method_49_code
def yX9_colourOf : MethodName := ⟨RX9, "colourOf", "(IIII)I"⟩
abbrev cX9_isPlace : ByteArray := prog_11_method_50_code
def yX9_isPlace : MethodName := ⟨RX9, "isPlace", "(II)Z"⟩
abbrev cX9_lies0 : ByteArray := prog_11_method_51_code
def yX9_lies0 : MethodName := ⟨RX9, "lies0", "(III)Z"⟩
abbrev cX9_showsAt : ByteArray := prog_11_method_52_code
def yX9_showsAt : MethodName := ⟨RX9, "showsAt", "(IIZ)I"⟩
abbrev cX9_shows : ByteArray := prog_11_method_53_code
def yX9_shows : MethodName := ⟨RX9, "shows", "(II)I"⟩
abbrev cX9_layers : ByteArray := prog_11_method_54_code
def yX9_layers : MethodName := ⟨RX9, "layers", "(II)I"⟩
abbrev cX9_layer : ByteArray := prog_11_method_55_code
def yX9_layer : MethodName := ⟨RX9, "layer", "(II)I"⟩
abbrev cX9_allPins : ByteArray := prog_11_method_56_code
def yX9_allPins : MethodName := ⟨RX9, "allPins", "()I"⟩
abbrev cX9_look : ByteArray := prog_11_method_57_code
def yX9_look : MethodName := ⟨RX9, "look", "(I)I"⟩
abbrev cX9_upon : ByteArray := prog_11_method_58_code
def yX9_upon : MethodName := ⟨RX9, "upon", "(IIZ)I"⟩
abbrev cX9_strengthOf : ByteArray := prog_11_method_59_code
def yX9_strengthOf : MethodName := ⟨RX9, "strengthOf", "(IZ)I"⟩
abbrev cX9_strength : ByteArray := prog_11_method_60_code
def yX9_strength : MethodName := ⟨RX9, "strength", "(I)I"⟩
abbrev cX9_stretch : ByteArray := prog_11_method_61_code
def yX9_stretch : MethodName := ⟨RX9, "stretch", "(III)Z"⟩
abbrev cX9_pullOf : ByteArray := prog_11_method_62_code
def yX9_pullOf : MethodName := ⟨RX9, "pullOf", "(IIZ)I"⟩
abbrev cX9_pull : ByteArray := prog_11_method_63_code
def yX9_pull : MethodName := ⟨RX9, "pull", "(II)I"⟩
abbrev cX9_hasLayers : ByteArray := prog_11_method_64_code
def yX9_hasLayers : MethodName := ⟨RX9, "hasLayers", "(I)Z"⟩
abbrev cX9_moves : ByteArray := prog_11_method_65_code
def yX9_moves : MethodName := ⟨RX9, "moves", "(I)I"⟩
abbrev cX9_slipped : ByteArray := prog_11_method_66_code
def yX9_slipped : MethodName := ⟨RX9, "slipped", "(I)I"⟩
abbrev cX9_after : ByteArray := prog_11_method_67_code
def yX9_after : MethodName := ⟨RX9, "after", "(II)I"⟩
abbrev cX9_fix : ByteArray := prog_11_method_68_code
def yX9_fix : MethodName := ⟨RX9, "fix", "()I"⟩
abbrev cX9_breaths : ByteArray := prog_11_method_69_code
def yX9_breaths : MethodName := ⟨RX9, "breaths", "()I"⟩
abbrev cX9_shortest : ByteArray := prog_11_method_70_code
def yX9_shortest : MethodName := ⟨RX9, "shortest", "(IIII)I"⟩
abbrev cX9_solve : ByteArray := prog_11_method_71_code
def yX9_solve : MethodName := ⟨RX9, "solve", "(IIIII)I"⟩
abbrev cX9_paints : ByteArray := prog_11_method_72_code
def yX9_paints : MethodName := ⟨RX9, "paints", "(IIIIII)V"⟩
abbrev cX9_does : ByteArray := prog_11_method_73_code
def yX9_does : MethodName := ⟨RX9, "does", "(IIII)Z"⟩
abbrev cX9_isLike : ByteArray := prog_11_method_74_code
def yX9_isLike : MethodName := ⟨RX9, "isLike", "(I)Z"⟩
abbrev cX9_isPicture : ByteArray := prog_11_method_75_code
def yX9_isPicture : MethodName := ⟨RX9, "isPicture", "(I)Z"⟩
abbrev cX9_read : ByteArray := prog_11_method_76_code
def yX9_read : MethodName := ⟨RX9, "read", "(II)I"⟩
abbrev cX9_wrote : ByteArray := prog_11_method_77_code
def yX9_wrote : MethodName := ⟨RX9, "wrote", "(I)I"⟩
abbrev cX9_count : ByteArray := prog_11_method_78_code
def yX9_count : MethodName := ⟨RX9, "count", "(I)I"⟩
abbrev cX9_ofCloth : ByteArray := prog_11_method_79_code
def yX9_ofCloth : MethodName := ⟨RX9, "ofCloth", "(II)I"⟩
def RJx8e188 : String := "java/lang/Cloneable"
def RJ9 : String := "java/lang/Math"
abbrev cJ9_max_7cf53 : ByteArray := prog_13_method_65_code
def yJ9_max_7cf53 : MethodName := ⟨RJ9, "max", "(II)I"⟩
abbrev cJ9_min_7cf53 : ByteArray := prog_13_method_69_code
def yJ9_min_7cf53 : MethodName := ⟨RJ9, "min", "(II)I"⟩
def RJ10 : String := "java/lang/System"
def RJ7 : String := "java/util/Arrays"
abbrev cJ7_fill_53178 : ByteArray := prog_15_method_103_code
def yJ7_fill_53178 : MethodName := ⟨RJ7, "fill", "([II)V"⟩
abbrev cJ7_copyOf_59c91 : ByteArray := prog_15_method_123_code
def yJ7_copyOf_59c91 : MethodName := ⟨RJ7, "copyOf", "([II)[I"⟩
def RL : String := "ClothSchoolLaw"
abbrev cL_law : ByteArray := code
def yL_law : MethodName := ⟨RL, "law", "([I)Z"⟩
theorem dJ7_fill_53178_0 : decode cJ7_fill_53178 0 = .ok (.iconst 0, 1) := by decide +kernel
theorem dJ7_fill_53178_1 : decode cJ7_fill_53178 1 = .ok (.istore_n 2, 1) := by decide +kernel
theorem dJ7_fill_53178_2 : decode cJ7_fill_53178 2 = .ok (.aload_n 0, 1) := by decide +kernel
theorem dJ7_fill_53178_3 : decode cJ7_fill_53178 3 = .ok (.arraylength, 1) := by decide +kernel
theorem dJ7_fill_53178_4 : decode cJ7_fill_53178 4 = .ok (.istore_n 3, 1) := by decide +kernel
theorem dJ7_fill_53178_5 : decode cJ7_fill_53178 5 = .ok (.iload_n 2, 1) := by decide +kernel
theorem dJ7_fill_53178_6 : decode cJ7_fill_53178 6 = .ok (.iload_n 3, 1) := by decide +kernel
theorem dJ7_fill_53178_7 : decode cJ7_fill_53178 7 = .ok (.if_icmp .ge 13, 3) := by decide +kernel
theorem dJ7_fill_53178_10 : decode cJ7_fill_53178 10 = .ok (.aload_n 0, 1) := by decide +kernel
theorem dJ7_fill_53178_11 : decode cJ7_fill_53178 11 = .ok (.iload_n 2, 1) := by decide +kernel
theorem dJ7_fill_53178_12 : decode cJ7_fill_53178 12 = .ok (.iload_n 1, 1) := by decide +kernel
theorem dJ7_fill_53178_13 : decode cJ7_fill_53178 13 = .ok (.iastore, 1) := by decide +kernel
theorem dJ7_fill_53178_14 : decode cJ7_fill_53178 14 = .ok (.iinc 2 1, 3) := by decide +kernel
theorem dJ7_fill_53178_17 : decode cJ7_fill_53178 17 = .ok (.goto (-12), 3) := by decide +kernel
theorem dJ7_fill_53178_20 : decode cJ7_fill_53178 20 = .ok (.return_, 1) := by decide +kernel
theorem dJ7_copyOf_59c91_0 : decode cJ7_copyOf_59c91 0 = .ok (.iload_n 1, 1) := by decide +kernel
theorem dJ7_copyOf_59c91_1 : decode cJ7_copyOf_59c91 1 = .ok (.aload_n 0, 1) := by decide +kernel
theorem dJ7_copyOf_59c91_2 : decode cJ7_copyOf_59c91 2 = .ok (.arraylength, 1) := by decide +kernel
theorem dJ7_copyOf_59c91_3 : decode cJ7_copyOf_59c91 3 = .ok (.if_icmp .ne 11, 3) := by decide +kernel
theorem dJ7_copyOf_59c91_6 : decode cJ7_copyOf_59c91 6 = .ok (.aload_n 0, 1) := by decide +kernel
theorem dJ7_copyOf_59c91_7 : decode cJ7_copyOf_59c91 7 = .ok (.invokevirtual 316, 3) := by decide +kernel
theorem dJ7_copyOf_59c91_10 : decode cJ7_copyOf_59c91 10 = .ok (.checkcast 317, 3) := by decide +kernel
theorem dJ7_copyOf_59c91_13 : decode cJ7_copyOf_59c91 13 = .ok (.areturn, 1) := by decide +kernel
theorem dJ7_copyOf_59c91_14 : decode cJ7_copyOf_59c91 14 = .ok (.iload_n 1, 1) := by decide +kernel
theorem dJ7_copyOf_59c91_15 : decode cJ7_copyOf_59c91 15 = .ok (.newarray .int, 2) := by decide +kernel
theorem dJ7_copyOf_59c91_17 : decode cJ7_copyOf_59c91 17 = .ok (.astore_n 2, 1) := by decide +kernel
theorem dJ7_copyOf_59c91_18 : decode cJ7_copyOf_59c91 18 = .ok (.aload_n 0, 1) := by decide +kernel
theorem dJ7_copyOf_59c91_19 : decode cJ7_copyOf_59c91 19 = .ok (.iconst 0, 1) := by decide +kernel
theorem dJ7_copyOf_59c91_20 : decode cJ7_copyOf_59c91 20 = .ok (.aload_n 2, 1) := by decide +kernel
theorem dJ7_copyOf_59c91_21 : decode cJ7_copyOf_59c91 21 = .ok (.iconst 0, 1) := by decide +kernel
theorem dJ7_copyOf_59c91_22 : decode cJ7_copyOf_59c91 22 = .ok (.aload_n 0, 1) := by decide +kernel
theorem dJ7_copyOf_59c91_23 : decode cJ7_copyOf_59c91 23 = .ok (.arraylength, 1) := by decide +kernel
theorem dJ7_copyOf_59c91_24 : decode cJ7_copyOf_59c91 24 = .ok (.iload_n 1, 1) := by decide +kernel
theorem dJ7_copyOf_59c91_25 : decode cJ7_copyOf_59c91 25 = .ok (.invokestatic 304, 3) := by decide +kernel
theorem dJ7_copyOf_59c91_28 : decode cJ7_copyOf_59c91 28 = .ok (.invokestatic 150, 3) := by decide +kernel
theorem dJ7_copyOf_59c91_31 : decode cJ7_copyOf_59c91 31 = .ok (.aload_n 2, 1) := by decide +kernel
theorem dJ7_copyOf_59c91_32 : decode cJ7_copyOf_59c91 32 = .ok (.areturn, 1) := by decide +kernel
abbrev vwCl : List vw_C := [(RX0, TX0, 4), (RX1, TX1, 16), (RX2, TX2, 10), (RX3, TX3, 6), (RX4, TX4, 9), (RX5, TX5, 10), (RX6, TX6, 8), (RX7, TX7, 2), (RX8, TX8, 16), (RX9, TX9, 72)]
